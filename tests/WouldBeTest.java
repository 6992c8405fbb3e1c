/** Promises 32 to 37: what would be, the mean damping and the digest. */
public final class WouldBeTest {
    public static void main(String[] args) {
        meetsWithDamping();
        leastDamping();
        daysUntilMet();
        daysUntilMetAtMost();
        easiestHall();
        easiestHallEdges();
        nothingIsChanged();
        meanDamping();
        digest();
        wrongCalls();
        Check.end();
    }

    /** One hall whose only loud echo comes at 60: 900 undamped, 1000 * 90 / 100 * (100 - d) / 100 with d. */
    private static EchoBureau oneLoudEcho() {
        EchoBureau b = new EchoBureau();
        b.addHall(20);
        b.addSurface(0, 10, 90);
        b.addStandard(0, 451, 0, 3000, 10);
        return b;
    }

    private static void meetsWithDamping() {
        EchoBureau b = oneLoudEcho();
        Check.no("meetsWithDamping 0", b.meetsWithDamping(0, 0, 0));
        Check.no("meetsWithDamping 49", b.meetsWithDamping(0, 0, 49));
        Check.yes("meetsWithDamping 50", b.meetsWithDamping(0, 0, 50));
        Check.yes("meetsWithDamping 90", b.meetsWithDamping(0, 0, 90));
        Check.no("meets, as damped as it is", b.meets(0, 0));
        Check.equal("dampingOf behind it", b.dampingOf(0), 20);
    }

    private static void leastDamping() {
        EchoBureau b = oneLoudEcho();
        Check.equal("leastDamping", b.leastDamping(0, 0), 50);
        b.setDamping(0, 80);
        Check.equal("leastDamping of a hall that is damped more", b.leastDamping(0, 0), 50);
        b.addStandard(0, 1000, 0, 3000, 10);
        b.addStandard(61, 1, 99, 3000, 10);
        b.addStandard(0, 90, 0, 3000, 10);
        b.addStandard(0, 91, 0, 3000, 10);
        Check.equal("leastDamping 0", b.leastDamping(0, 1), 0);
        Check.equal("leastDamping, none", b.leastDamping(0, 2), -1);
        Check.equal("leastDamping, 90 does not do", b.leastDamping(0, 3), -1);
        Check.equal("leastDamping, just 90", b.leastDamping(0, 4), 90);
        b.passDays(50);
        Check.equal("leastDamping with dust", b.leastDamping(0, 0), 44);
    }

    private static void daysUntilMet() {
        EchoBureau b = new EchoBureau();
        b.addHall(0);
        b.addSurface(0, 10, 50);
        b.addStandard(0, 491, 0, 3000, 10);
        Check.equal("daysUntilMet", b.daysUntilMet(0, 0), 5);
        b.passDays(3);
        Check.equal("daysUntilMet behind 3 days", b.daysUntilMet(0, 0), 2);
        b.passDays(2);
        Check.equal("daysUntilMet, met now", b.daysUntilMet(0, 0), 0);
        b.clean(0);
        Check.equal("daysUntilMet, clean", b.daysUntilMet(0, 0), 5);
        b.setDamping(0, 10);
        Check.equal("daysUntilMet, damped", b.daysUntilMet(0, 0), 0);
    }

    private static void daysUntilMetAtMost() {
        EchoBureau b = new EchoBureau();
        b.addHall(0);
        b.addSurface(0, 10, 50);
        b.addStandard(0, 301, 0, 3000, 10);
        b.addStandard(0, 300, 0, 3000, 10);
        Check.equal("daysUntilMet, the last day", b.daysUntilMet(0, 0), 100);
        Check.equal("daysUntilMet, not by then", b.daysUntilMet(0, 1), -1);
        b.passDays(99);
        Check.equal("daysUntilMet, dust 99", b.daysUntilMet(0, 0), 1);
        b.passDays(100);
        Check.equal("daysUntilMet, dust 100", b.daysUntilMet(0, 0), 0);
        Check.equal("daysUntilMet, dust 100, never", b.daysUntilMet(0, 1), -1);
    }

    private static void easiestHall() {
        EchoBureau b = new EchoBureau();
        b.addStandard(0, 451, 0, 3000, 10);
        b.addStandard(360, 1, 0, 3000, 10);
        Check.equal("easiestHall without halls", b.easiestHall(0), -1);
        b.addHall(0);
        b.addHall(80);
        b.addHall(0);
        b.addSurface(0, 10, 99);
        b.addSurface(1, 10, 60);
        b.addSurface(2, 20, 60);
        Check.equal("easiestHall, the smaller of two", b.easiestHall(0), 1);
        b.addSurface(1, 1, 99);
        Check.equal("easiestHall", b.easiestHall(0), 2);
        Check.equal("easiestHall, none", b.easiestHall(1), -1);
        b.addHall(90);
        Check.equal("easiestHall, the last one without surfaces", b.easiestHall(1), 3);
        for (int bad : new int[] {-1, 2, 5, Integer.MIN_VALUE, Integer.MAX_VALUE}) {
            Check.refused(b, "easiestHall(" + bad + ")", Check.INDEX, () -> b.easiestHall(bad));
        }
    }

    private static void easiestHallEdges() {
        EchoBureau b = oneLoudEcho();
        b.addHall(0);
        Check.equal("easiestHall, the second at once", b.easiestHall(0), 1);
        b.addSurface(1, 10, 95);
        Check.equal("easiestHall, the first", b.easiestHall(0), 0);
        b.addStandard(0, 91, 0, 3000, 10);
        b.addStandard(0, 900, 0, 3000, 10);
        b.addStandard(0, 951, 0, 3000, 10);
        Check.equal("easiestHall, just with 90", b.easiestHall(1), 0);
        Check.equal("easiestHall, with 1", b.easiestHall(2), 0);
        Check.equal("easiestHall, both with 0 and the first one with more to spare", b.easiestHall(3), 0);
        b.setDamping(1, 90);
        b.moveSurface(1, 0, 20);
        b.addHall(90);
        b.addSurface(2, 10, 80);
        Check.equal("easiestHall, the third with 0 and the first with 1", b.easiestHall(2), 2);
        EchoBureau other = new EchoBureau();
        other.addHall(0);
        other.addHall(0);
        other.addSurface(0, 10, 95);
        other.addSurface(1, 10, 90);
        other.addStandard(0, 951, 0, 3000, 10);
        Check.equal("easiestHall, both with 0 and the second one with more to spare", other.easiestHall(0), 0);
    }

    private static void nothingIsChanged() {
        EchoBureau b = oneLoudEcho();
        b.addHall(0);
        b.inspect(1, 0);
        b.passDays(7);
        long before = b.digest();
        b.meetsWithDamping(0, 0, 90);
        b.leastDamping(0, 0);
        b.daysUntilMet(0, 0);
        b.easiestHall(0);
        b.meanDamping();
        b.hallsMeeting(0);
        b.loudestMoment(0, 500);
        b.loudEchoes(0, 500, 3);
        Check.equal("digest() behind questions", b.digest(), before);
        Check.equal("inspections() behind questions", b.inspections(), 1);
        Check.equal("daysLeft(1) behind questions", b.daysLeft(1), 3);
        Check.equal("dustOf(0) behind questions", b.dustOf(0), 7);
        Check.equal("day() behind questions", b.day(), 7);
    }

    private static void meanDamping() {
        EchoBureau b = new EchoBureau();
        Check.equal("meanDamping() of none", b.meanDamping(), 0.0);
        b.addHall(0);
        Check.equal("meanDamping() of 0", b.meanDamping(), 0.0);
        EchoBureau one = new EchoBureau();
        one.addHall(37);
        Check.equal("meanDamping() of 37", one.meanDamping(), 37.0);
        b.addHall(1);
        Check.equal("meanDamping() of 0, 1", b.meanDamping(), 0.5);
        b.addHall(90);
        Check.equal("meanDamping() of 0, 1, 90", b.meanDamping(), 91.0 / 3.0);
        b.setDamping(0, 90);
        Check.equal("meanDamping() of 90, 1, 90", b.meanDamping(), 181.0 / 3.0);
    }

    private static long mixed(long... numbers) {
        long d = 1871;
        for (long x : numbers) {
            d = d * 31 + x;
        }
        return d;
    }

    private static void digest() {
        EchoBureau b = new EchoBureau();
        Check.equal("digest() of a new object", b.digest(), mixed(0, 0, 0, 0, 0));
        b.addHall(10);
        Check.equal("digest() of one hall", b.digest(), mixed(1, 0, 0, 0, 0, 0, 10, 0, -1, 0, 0, -1, -1, -1));
        b.addStandard(0, 1, 0, 0, 7);
        b.addStandard(0, 1, 99, 3000, 7);
        b.inspect(0, 1);
        b.addHall(0);
        b.addSurface(1, 10, 9);
        b.addSurface(1, 60, 0);
        b.inspect(1, 0);
        b.passDays(5);
        Check.equal("digest() of two halls", b.digest(), mixed(2, 2, 5, 2, 1,
            0, 10, 5, 1, 2,
            2, 0, 5, -1, 0, 10, 8, 60, 0,
            0, -1, -1, -1, 1, 1,
            2, 60, 120, 60, 0, 1));
    }

    private static void wrongCalls() {
        EchoBureau b = oneLoudEcho();
        for (int bad : new int[] {Integer.MIN_VALUE, -1, 1, 5, 8, Integer.MAX_VALUE}) {
            Check.refused(b, "meetsWithDamping(" + bad + ", 0, 91)", Check.INDEX, () -> b.meetsWithDamping(bad, 0, 91));
            Check.refused(b, "meetsWithDamping(0, " + bad + ", 91)", Check.INDEX, () -> b.meetsWithDamping(0, bad, 91));
            Check.refused(b, "leastDamping(" + bad + ", 0)", Check.INDEX, () -> b.leastDamping(bad, 0));
            Check.refused(b, "leastDamping(0, " + bad + ")", Check.INDEX, () -> b.leastDamping(0, bad));
            Check.refused(b, "daysUntilMet(" + bad + ", 0)", Check.INDEX, () -> b.daysUntilMet(bad, 0));
            Check.refused(b, "daysUntilMet(0, " + bad + ")", Check.INDEX, () -> b.daysUntilMet(0, bad));
        }
        for (int bad : new int[] {Integer.MIN_VALUE, -1, 91, Integer.MAX_VALUE}) {
            Check.refused(b, "meetsWithDamping(0, 0, " + bad + ")", Check.ARGUMENT, () -> b.meetsWithDamping(0, 0, bad));
        }
    }
}
