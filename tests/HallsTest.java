/** Promises 1 to 6 and 11 to 15: a new object, halls and what they are. */
public final class HallsTest {
    private static final int[] FAR_OUT = {Integer.MIN_VALUE, -1, 8, Integer.MAX_VALUE};

    public static void main(String[] args) {
        newObject();
        addHall();
        addSurface();
        addSurfaceOrder();
        moveSurface();
        setDamping();
        clean();
        whatHallsAre();
        changesTakeCertificates();
        Check.end();
    }

    private static EchoBureau certified() {
        EchoBureau b = new EchoBureau();
        b.addHall(10);
        b.addHall(20);
        b.addSurface(0, 10, 50);
        b.addStandard(0, 1, 99, 3000, 30);
        b.inspect(0, 0);
        b.inspect(1, 0);
        return b;
    }

    private static void newObject() {
        EchoBureau b = new EchoBureau();
        Check.equal("halls() at first", b.halls(), 0);
        Check.equal("standards() at first", b.standards(), 0);
        Check.equal("day() at first", b.day(), 0);
        Check.equal("inspections() at first", b.inspections(), 0);
        Check.equal("certifiedHalls() at first", b.certifiedHalls(), 0);
        Check.equal("meanDamping() at first", b.meanDamping(), 0.0);
        EchoBureau other = new EchoBureau();
        b.addHall(1);
        b.addStandard(0, 1, 0, 0, 1);
        b.passDays(3);
        Check.equal("halls() of another object", other.halls(), 0);
        Check.equal("standards() of another object", other.standards(), 0);
        Check.equal("day() of another object", other.day(), 0);
    }

    private static void addHall() {
        EchoBureau b = new EchoBureau();
        for (int bad : new int[] {-1, 91, Integer.MIN_VALUE, Integer.MAX_VALUE}) {
            Check.refused(b, "addHall(" + bad + ")", Check.ARGUMENT, () -> b.addHall(bad));
        }
        for (int i = 0; i < 8; i++) {
            int damping = i == 7 ? 90 : i * 10;
            Check.equal("addHall no. " + i, b.addHall(damping), i);
            Check.equal("halls()", b.halls(), i + 1);
            Check.equal("dampingOf new", b.dampingOf(i), damping);
            Check.equal("surfacesOf new", b.surfacesOf(i), 0);
            Check.equal("dustOf new", b.dustOf(i), 0);
            Check.no("isCertified new", b.isCertified(i));
            Check.equal("daysLeft new", b.daysLeft(i), 0);
        }
        Check.refused(b, "addHall(0), the 9th", Check.STATE, () -> b.addHall(0));
        Check.refused(b, "addHall(91), the 9th", Check.ARGUMENT, () -> b.addHall(91));
        Check.equal("halls() when full", b.halls(), 8);
        Check.refused(b, "dampingOf(8), full", Check.INDEX, () -> b.dampingOf(8));
        EchoBureau late = new EchoBureau();
        late.passDays(50);
        late.addHall(5);
        Check.equal("dustOf a hall made on the day 50", late.dustOf(0), 0);
    }

    private static void addSurface() {
        EchoBureau b = new EchoBureau();
        b.addHall(0);
        b.addHall(0);
        int[][] good = {{1, 0}, {60, 99}, {1, 99}, {60, 0}, {30, 50}, {2, 1}};
        for (int i = 0; i < 6; i++) {
            Check.equal("addSurface no. " + i, b.addSurface(1, good[i][0], good[i][1]), i);
            Check.equal("surfacesOf(1)", b.surfacesOf(1), i + 1);
        }
        for (int i = 0; i < 6; i++) {
            Check.equal("distanceOf(1, " + i + ")", b.distanceOf(1, i), good[i][0]);
            Check.equal("hardnessOf(1, " + i + ")", b.hardnessOf(1, i), good[i][1]);
        }
        Check.refused(b, "addSurface, the 7th", Check.STATE, () -> b.addSurface(1, 1, 1));
        Check.refused(b, "distanceOf(1, 6), full", Check.INDEX, () -> b.distanceOf(1, 6));
        Check.refused(b, "hardnessOf(1, 6), full", Check.INDEX, () -> b.hardnessOf(1, 6));
        Check.refused(b, "moveSurface(1, 6, 1), full", Check.INDEX, () -> b.moveSurface(1, 6, 1));
        Check.equal("surfacesOf(0)", b.surfacesOf(0), 0);
        Check.equal("addSurface(0, 5, 5)", b.addSurface(0, 5, 5), 0);
    }

    private static void addSurfaceOrder() {
        EchoBureau b = new EchoBureau();
        Check.refused(b, "addSurface without halls", Check.INDEX, () -> b.addSurface(0, 1, 1));
        b.addHall(0);
        for (int i = 0; i < 6; i++) {
            b.addSurface(0, 10, 10);
        }
        for (int bad : FAR_OUT) {
            Check.refused(b, "addSurface(" + bad + ", ..)", Check.INDEX, () -> b.addSurface(bad, 0, -1));
        }
        Check.refused(b, "addSurface(1, 1, 1)", Check.INDEX, () -> b.addSurface(1, 1, 1));
        for (int bad : new int[] {0, 61, -1, Integer.MIN_VALUE, Integer.MAX_VALUE}) {
            Check.refused(b, "addSurface(0, " + bad + ", 1), full", Check.ARGUMENT, () -> b.addSurface(0, bad, 1));
        }
        for (int bad : new int[] {-1, 100, Integer.MIN_VALUE, Integer.MAX_VALUE}) {
            Check.refused(b, "addSurface(0, 1, " + bad + "), full", Check.ARGUMENT, () -> b.addSurface(0, 1, bad));
        }
    }

    private static void moveSurface() {
        EchoBureau b = new EchoBureau();
        b.addHall(0);
        b.addSurface(0, 10, 50);
        b.addSurface(0, 20, 60);
        Check.equal("moveSurface(0, 1, 60)", b.moveSurface(0, 1, 60), 20);
        Check.equal("moveSurface(0, 1, 1)", b.moveSurface(0, 1, 1), 60);
        Check.equal("distanceOf(0, 1)", b.distanceOf(0, 1), 1);
        Check.equal("distanceOf(0, 0)", b.distanceOf(0, 0), 10);
        Check.equal("hardnessOf(0, 1)", b.hardnessOf(0, 1), 60);
        Check.equal("firstEcho behind the move", b.firstEcho(0, 1000), 6);
        for (int bad : FAR_OUT) {
            Check.refused(b, "moveSurface(" + bad + ", 0, 0)", Check.INDEX, () -> b.moveSurface(bad, 0, 0));
            Check.refused(b, "moveSurface(0, " + bad + ", 0)", Check.INDEX, () -> b.moveSurface(0, bad, 0));
        }
        Check.refused(b, "moveSurface(0, 2, 1)", Check.INDEX, () -> b.moveSurface(0, 2, 1));
        Check.refused(b, "moveSurface(1, 0, 1)", Check.INDEX, () -> b.moveSurface(1, 0, 1));
        for (int bad : new int[] {0, 61, Integer.MIN_VALUE, Integer.MAX_VALUE}) {
            Check.refused(b, "moveSurface(0, 0, " + bad + ")", Check.ARGUMENT, () -> b.moveSurface(0, 0, bad));
        }
    }

    private static void setDamping() {
        EchoBureau b = new EchoBureau();
        b.addHall(7);
        b.addHall(8);
        Check.equal("setDamping(1, 90)", b.setDamping(1, 90), 8);
        Check.equal("setDamping(1, 0)", b.setDamping(1, 0), 90);
        Check.equal("dampingOf(1)", b.dampingOf(1), 0);
        Check.equal("dampingOf(0)", b.dampingOf(0), 7);
        for (int bad : FAR_OUT) {
            Check.refused(b, "setDamping(" + bad + ", 91)", Check.INDEX, () -> b.setDamping(bad, 91));
        }
        Check.refused(b, "setDamping(2, 0)", Check.INDEX, () -> b.setDamping(2, 0));
        for (int bad : new int[] {-1, 91, Integer.MIN_VALUE, Integer.MAX_VALUE}) {
            Check.refused(b, "setDamping(0, " + bad + ")", Check.ARGUMENT, () -> b.setDamping(0, bad));
        }
    }

    private static void clean() {
        EchoBureau b = certified();
        b.passDays(12);
        Check.equal("clean(0)", b.clean(0), 12);
        Check.equal("clean(0) again", b.clean(0), 0);
        Check.equal("dustOf(0)", b.dustOf(0), 0);
        Check.equal("dustOf(1)", b.dustOf(1), 12);
        Check.yes("isCertified(0) behind clean", b.isCertified(0));
        Check.equal("daysLeft(0) behind clean", b.daysLeft(0), 18);
        Check.equal("hardnessOf(0, 0) behind clean", b.hardnessOf(0, 0), 50);
        for (int bad : FAR_OUT) {
            Check.refused(b, "clean(" + bad + ")", Check.INDEX, () -> b.clean(bad));
        }
        Check.refused(b, "clean(2)", Check.INDEX, () -> b.clean(2));
    }

    private static void whatHallsAre() {
        EchoBureau b = new EchoBureau();
        b.addHall(33);
        b.addSurface(0, 13, 3);
        b.addSurface(0, 14, 99);
        b.passDays(4);
        Check.equal("hardnessOf(0, 0), dust 4", b.hardnessOf(0, 0), 3);
        b.passDays(1);
        Check.equal("hardnessOf(0, 0), dust 5", b.hardnessOf(0, 0), 2);
        Check.equal("hardnessOf(0, 1), dust 5", b.hardnessOf(0, 1), 98);
        b.passDays(14);
        Check.equal("hardnessOf(0, 0), dust 19", b.hardnessOf(0, 0), 0);
        b.passDays(1);
        Check.equal("hardnessOf(0, 0), dust 20", b.hardnessOf(0, 0), 0);
        Check.equal("dustOf(0)", b.dustOf(0), 20);
        b.passDays(100);
        Check.equal("dustOf(0) at most", b.dustOf(0), 100);
        Check.equal("hardnessOf(0, 1), dust 100", b.hardnessOf(0, 1), 79);
        for (int bad : FAR_OUT) {
            Check.refused(b, "surfacesOf(" + bad + ")", Check.INDEX, () -> b.surfacesOf(bad));
            Check.refused(b, "dampingOf(" + bad + ")", Check.INDEX, () -> b.dampingOf(bad));
            Check.refused(b, "dustOf(" + bad + ")", Check.INDEX, () -> b.dustOf(bad));
            Check.refused(b, "distanceOf(" + bad + ", 0)", Check.INDEX, () -> b.distanceOf(bad, 0));
            Check.refused(b, "distanceOf(0, " + bad + ")", Check.INDEX, () -> b.distanceOf(0, bad));
            Check.refused(b, "hardnessOf(" + bad + ", 0)", Check.INDEX, () -> b.hardnessOf(bad, 0));
            Check.refused(b, "hardnessOf(0, " + bad + ")", Check.INDEX, () -> b.hardnessOf(0, bad));
        }
        Check.refused(b, "surfacesOf(1)", Check.INDEX, () -> b.surfacesOf(1));
        Check.refused(b, "dampingOf(1)", Check.INDEX, () -> b.dampingOf(1));
        Check.refused(b, "dustOf(1)", Check.INDEX, () -> b.dustOf(1));
        Check.refused(b, "distanceOf(0, 2)", Check.INDEX, () -> b.distanceOf(0, 2));
        Check.refused(b, "hardnessOf(0, 2)", Check.INDEX, () -> b.hardnessOf(0, 2));
    }

    private static void changesTakeCertificates() {
        EchoBureau added = certified();
        added.addSurface(0, 10, 0);
        Check.no("isCertified(0) behind addSurface", added.isCertified(0));
        Check.equal("daysLeft(0) behind addSurface", added.daysLeft(0), 0);
        Check.yes("isCertified(1) behind addSurface to 0", added.isCertified(1));
        EchoBureau moved = certified();
        moved.moveSurface(0, 0, 10);
        Check.no("isCertified(0) behind a move to the same place", moved.isCertified(0));
        Check.yes("isCertified(1) behind a move in 0", moved.isCertified(1));
        EchoBureau damped = certified();
        damped.setDamping(0, 10);
        Check.no("isCertified(0) behind setting the same damping", damped.isCertified(0));
        Check.yes("isCertified(1) behind setDamping of 0", damped.isCertified(1));
        EchoBureau refused = certified();
        Check.refused(refused, "moveSurface(0, 0, 61)", Check.ARGUMENT, () -> refused.moveSurface(0, 0, 61));
        Check.refused(refused, "setDamping(0, 91)", Check.ARGUMENT, () -> refused.setDamping(0, 91));
        Check.refused(refused, "addSurface(0, 1, 100)", Check.ARGUMENT, () -> refused.addSurface(0, 1, 100));
        Check.yes("isCertified(0) behind refused calls", refused.isCertified(0));
    }
}
