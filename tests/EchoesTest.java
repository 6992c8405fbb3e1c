/** Promises 16 to 21: the echoes of a click. */
public final class EchoesTest {
    private static final int[] FAR_OUT = {Integer.MIN_VALUE, -1, 8, Integer.MAX_VALUE};
    private static final int[] NOT_LOUDNESSES = {Integer.MIN_VALUE, -1, 0, 1001, Integer.MAX_VALUE};

    public static void main(String[] args) {
        oneRow();
        cutsTwice();
        endsAtTheLastMoment();
        rowsAreAdded();
        equalMoments();
        softestEcho();
        noEcho();
        dustAndDamping();
        wrongCalls();
        Check.end();
    }

    private static void oneRow() {
        EchoBureau b = new EchoBureau();
        b.addHall(0);
        b.addSurface(0, 7, 50);
        // 1000 -> 500, 250, 125, 62, 31, 15, 7, 3, 1, 0
        int[] row = {500, 250, 125, 62, 31, 15, 7, 3, 1};
        Check.equal("echoes(0, 1000)", b.echoes(0, 1000), 9);
        Check.equal("firstEcho(0, 1000)", b.firstEcho(0, 1000), 42);
        Check.equal("lastEcho(0, 1000)", b.lastEcho(0, 1000), 9 * 42);
        Check.equal("loudestMoment(0, 1000)", b.loudestMoment(0, 1000), 42);
        for (int i = 0; i < row.length; i++) {
            int at = 42 * (i + 1);
            Check.equal("loudnessAt(0, 1000, " + at + ")", b.loudnessAt(0, 1000, at), row[i]);
            Check.equal("loudnessAt a moment ahead", b.loudnessAt(0, 1000, at - 1), 0);
            Check.equal("loudnessAt a moment behind", b.loudnessAt(0, 1000, at + 1), 0);
            Check.equal("loudnessAt 6 behind", b.loudnessAt(0, 1000, at + 6), 0);
            Check.equal("loudEchoes as loud", b.loudEchoes(0, 1000, row[i]), i + 1);
        }
        Check.equal("loudEchoes louder than all", b.loudEchoes(0, 1000, 501), 0);
        Check.equal("loudEchoes(0, 1000, 1000)", b.loudEchoes(0, 1000, 1000), 0);
        Check.equal("loudnessAt(0, 1000, 0)", b.loudnessAt(0, 1000, 0), 0);
        Check.equal("loudnessAt(0, 1000, 3000)", b.loudnessAt(0, 1000, 3000), 0);
        Check.equal("echoes(0, 2)", b.echoes(0, 2), 1);
        Check.equal("echoes(0, 1)", b.echoes(0, 1), 0);
    }

    /** 3 * 50 / 100 is 1, and 1 * 90 / 100 is 0; in one cut, 3 * 50 * 90 / 10000 would be 1. */
    private static void cutsTwice() {
        EchoBureau b = new EchoBureau();
        b.addHall(10);
        b.addSurface(0, 1, 50);
        Check.equal("echoes(0, 3)", b.echoes(0, 3), 0);
        Check.equal("loudnessAt(0, 4, 6)", b.loudnessAt(0, 4, 6), 1);
        Check.equal("loudnessAt(0, 999, 6)", b.loudnessAt(0, 999, 6), 449);
        EchoBureau other = new EchoBureau();
        other.addHall(50);
        other.addSurface(0, 1, 99);
        // damping first would be 3 -> 1 -> 0; hardness first is 3 -> 2 -> 1
        Check.equal("hardness is ahead of damping", other.loudnessAt(0, 3, 6), 1);
    }

    private static void endsAtTheLastMoment() {
        EchoBureau b = new EchoBureau();
        b.addHall(0);
        b.addSurface(0, 50, 99);
        Check.equal("lastEcho at 3000", b.lastEcho(0, 1000), 3000);
        Check.equal("echoes up to 3000", b.echoes(0, 1000), 10);
        Check.yes("loudnessAt 3000", b.loudnessAt(0, 1000, 3000) > 0);
        b.moveSurface(0, 0, 51);
        Check.equal("lastEcho ahead of 3000", b.lastEcho(0, 1000), 9 * 306);
        Check.equal("echoes ahead of 3000", b.echoes(0, 1000), 9);
        b.moveSurface(0, 0, 60);
        Check.equal("lastEcho of the farthest", b.lastEcho(0, 1000), 2880);
        b.moveSurface(0, 0, 1);
        Check.equal("echoes of the nearest and hardest", b.echoes(0, 1000), 291);
        Check.equal("lastEcho of the nearest and hardest", b.lastEcho(0, 1000), 1746);
    }

    private static void rowsAreAdded() {
        EchoBureau b = new EchoBureau();
        b.addHall(0);
        b.addSurface(0, 20, 60);
        b.addSurface(0, 10, 50);
        // 600, 360, 216, 129, 77, 46, 27, 16, 9, 5, 3, 1 at 120 and so on; 500, 250, 125, 62 .. at 60 and so on
        Check.equal("firstEcho, of the second surface", b.firstEcho(0, 1000), 60);
        Check.equal("loudnessAt 60", b.loudnessAt(0, 1000, 60), 500);
        Check.equal("loudnessAt 120", b.loudnessAt(0, 1000, 120), 850);
        Check.equal("loudnessAt 180", b.loudnessAt(0, 1000, 180), 125);
        Check.equal("loudnessAt 240", b.loudnessAt(0, 1000, 240), 422);
        Check.equal("loudestMoment, of two together", b.loudestMoment(0, 1000), 120);
        Check.equal("lastEcho, of the first surface", b.lastEcho(0, 1000), 120 * 12);
        Check.equal("echoes of both", b.echoes(0, 1000), 9 + 12);
        Check.equal("loudEchoes one by one", b.loudEchoes(0, 1000, 361), 2);
        Check.equal("loudEchoes one by one, as loud", b.loudEchoes(0, 1000, 360), 3);
    }

    private static void equalMoments() {
        EchoBureau b = new EchoBureau();
        b.addHall(0);
        b.addSurface(0, 30, 50);
        b.addSurface(0, 7, 50);
        Check.equal("of several the first one", b.loudestMoment(0, 1000), 42);
        EchoBureau far = new EchoBureau();
        far.addHall(0);
        far.addSurface(0, 60, 2);
        far.addSurface(0, 59, 2);
        far.addSurface(0, 60, 1);
        Check.equal("loudestMoment by the sum", far.loudestMoment(0, 1000), 360);
    }

    private static void softestEcho() {
        EchoBureau b = new EchoBureau();
        b.addHall(0);
        b.addSurface(0, 7, 50);
        Check.equal("loudestMoment of an echo as loud as 1", b.loudestMoment(0, 2), 42);
        Check.equal("firstEcho of an echo as loud as 1", b.firstEcho(0, 2), 42);
        Check.equal("lastEcho of an echo as loud as 1", b.lastEcho(0, 2), 42);
        Check.equal("loudEchoes of an echo as loud as 1", b.loudEchoes(0, 2, 1), 1);
    }

    private static void noEcho() {
        EchoBureau b = new EchoBureau();
        b.addHall(0);
        for (int i = 0; i < 2; i++) {
            Check.equal("echoes of none", b.echoes(0, 1000), 0);
            Check.equal("loudEchoes of none", b.loudEchoes(0, 1000, 1), 0);
            Check.equal("firstEcho of none", b.firstEcho(0, 1000), -1);
            Check.equal("lastEcho of none", b.lastEcho(0, 1000), -1);
            Check.equal("loudestMoment of none", b.loudestMoment(0, 1000), -1);
            Check.equal("loudnessAt of none", b.loudnessAt(0, 1000, 6), 0);
            b.addSurface(0, 1, 0);
        }
        b.addHall(0);
        b.addSurface(1, 1, 99);
        b.echoes(1, 1000);
        b.loudestMoment(1, 1000);
        Check.equal("echoes of none behind those of another", b.echoes(0, 1000), 0);
        Check.equal("firstEcho of none behind those of another", b.firstEcho(0, 1000), -1);
        Check.equal("lastEcho of none behind those of another", b.lastEcho(0, 1000), -1);
        Check.equal("loudestMoment of none behind that of another", b.loudestMoment(0, 1000), -1);
        Check.equal("loudnessAt of none behind that of another", b.loudnessAt(0, 1000, 6), 0);
    }

    private static void dustAndDamping() {
        EchoBureau b = new EchoBureau();
        b.addHall(90);
        b.addSurface(0, 2, 99);
        Check.equal("loudnessAt 12, damped", b.loudnessAt(0, 1000, 12), 99);
        Check.equal("loudnessAt 24, damped", b.loudnessAt(0, 1000, 24), 9);
        Check.equal("echoes, damped", b.echoes(0, 1000), 2);
        b.setDamping(0, 0);
        b.passDays(9);
        Check.equal("loudnessAt 12, dust 9", b.loudnessAt(0, 1000, 12), 980);
        b.passDays(1);
        Check.equal("loudnessAt 12, dust 10", b.loudnessAt(0, 1000, 12), 970);
        b.clean(0);
        Check.equal("loudnessAt 12, clean", b.loudnessAt(0, 1000, 12), 990);
    }

    private static void wrongCalls() {
        EchoBureau b = new EchoBureau();
        b.addHall(0);
        b.addSurface(0, 10, 50);
        for (int h : new int[] {Integer.MIN_VALUE, -1, 1, 8, Integer.MAX_VALUE}) {
            Check.refused(b, "echoes(" + h + ", 0)", Check.INDEX, () -> b.echoes(h, 0));
            Check.refused(b, "loudEchoes(" + h + ", 0, 0)", Check.INDEX, () -> b.loudEchoes(h, 0, 0));
            Check.refused(b, "firstEcho(" + h + ", 0)", Check.INDEX, () -> b.firstEcho(h, 0));
            Check.refused(b, "lastEcho(" + h + ", 0)", Check.INDEX, () -> b.lastEcho(h, 0));
            Check.refused(b, "loudnessAt(" + h + ", 0, -1)", Check.INDEX, () -> b.loudnessAt(h, 0, -1));
            Check.refused(b, "loudestMoment(" + h + ", 0)", Check.INDEX, () -> b.loudestMoment(h, 0));
        }
        for (int l : NOT_LOUDNESSES) {
            Check.refused(b, "echoes(0, " + l + ")", Check.ARGUMENT, () -> b.echoes(0, l));
            Check.refused(b, "loudEchoes(0, " + l + ", 1)", Check.ARGUMENT, () -> b.loudEchoes(0, l, 1));
            Check.refused(b, "loudEchoes(0, 1, " + l + ")", Check.ARGUMENT, () -> b.loudEchoes(0, 1, l));
            Check.refused(b, "firstEcho(0, " + l + ")", Check.ARGUMENT, () -> b.firstEcho(0, l));
            Check.refused(b, "lastEcho(0, " + l + ")", Check.ARGUMENT, () -> b.lastEcho(0, l));
            Check.refused(b, "loudnessAt(0, " + l + ", 0)", Check.ARGUMENT, () -> b.loudnessAt(0, l, 0));
            Check.refused(b, "loudestMoment(0, " + l + ")", Check.ARGUMENT, () -> b.loudestMoment(0, l));
        }
        for (int m : new int[] {Integer.MIN_VALUE, -6, -1, 3001, 3006, Integer.MAX_VALUE}) {
            Check.refused(b, "loudnessAt(0, 1, " + m + ")", Check.ARGUMENT, () -> b.loudnessAt(0, 1, m));
        }
    }
}
