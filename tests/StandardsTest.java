/** Promises 7 to 10 and 22 to 31: standards, inspections, certificates and the bureau's counts. */
public final class StandardsTest {
    private static final int[] FAR_OUT = {Integer.MIN_VALUE, -1, 8, Integer.MAX_VALUE};

    public static void main(String[] args) {
        addStandard();
        meetsEdges();
        meetsCountsTheLimit();
        emptyHallMeetsAll();
        hallsMeeting();
        inspect();
        revoke();
        passDays();
        certificatesRunOut();
        wrongNumbers();
        Check.end();
    }

    private static void addStandard() {
        EchoBureau b = new EchoBureau();
        int[][] wrong = {
            {-1, 1, 0, 0, 1}, {501, 1, 0, 0, 1}, {0, 0, 0, 0, 1}, {0, 1001, 0, 0, 1}, {0, 1, -1, 0, 1},
            {0, 1, 100, 0, 1}, {0, 1, 0, -1, 1}, {0, 1, 0, 3001, 1}, {0, 1, 0, 0, 0}, {0, 1, 0, 0, 101},
            {Integer.MIN_VALUE, 1, 0, 0, 1}, {0, 1, 0, 0, Integer.MAX_VALUE}};
        for (int[] w : wrong) {
            Check.refused(b, "addStandard of a wrong one", Check.ARGUMENT,
                () -> b.addStandard(w[0], w[1], w[2], w[3], w[4]));
        }
        int[][] right = {
            {0, 1, 0, 0, 1}, {500, 1000, 99, 3000, 100}, {500, 1, 0, 0, 1}, {0, 1000, 0, 3000, 1}, {0, 1, 99, 0, 100}};
        for (int i = 0; i < 5; i++) {
            int[] r = right[i];
            Check.equal("addStandard no. " + i, b.addStandard(r[0], r[1], r[2], r[3], r[4]), i);
            Check.equal("standards()", b.standards(), i + 1);
        }
        Check.refused(b, "hallsMeeting(5), full", Check.INDEX, () -> b.hallsMeeting(5));
        Check.refused(b, "addStandard, the 6th", Check.STATE, () -> b.addStandard(0, 1, 0, 0, 1));
        for (int[] w : wrong) {
            Check.refused(b, "addStandard of a wrong one, the 6th", Check.ARGUMENT,
                () -> b.addStandard(w[0], w[1], w[2], w[3], w[4]));
        }
    }

    /** The hall has just two echoes, so that each bound can be one off. */
    private static void meetsEdges() {
        EchoBureau b = new EchoBureau();
        b.addHall(0);
        b.addSurface(0, 10, 9);
        // 90 at 60, 8 at 120, none at 180
        Check.equal("echoes", b.echoes(0, 1000), 2);
        b.addStandard(60, 1, 99, 120, 1);
        b.addStandard(61, 1, 99, 120, 1);
        b.addStandard(60, 1, 99, 119, 1);
        b.addStandard(60, 1, 2, 120, 1);
        b.addStandard(60, 1, 1, 120, 1);
        Check.yes("first and last just in time", b.meets(0, 0));
        Check.no("first too early by 1", b.meets(0, 1));
        Check.no("last too late by 1", b.meets(0, 2));
        Check.yes("just as many as may be", b.meets(0, 3));
        Check.no("one too many", b.meets(0, 4));
    }

    private static void meetsCountsTheLimit() {
        EchoBureau b = new EchoBureau();
        b.addHall(0);
        b.addSurface(0, 10, 9);
        b.addStandard(0, 90, 0, 3000, 1);
        b.addStandard(0, 91, 0, 3000, 1);
        b.addStandard(0, 8, 1, 3000, 1);
        b.addStandard(0, 9, 1, 3000, 1);
        Check.no("one as loud as the limit, none may be", b.meets(0, 0));
        Check.yes("none as loud as the limit", b.meets(0, 1));
        Check.no("two as loud as the limit, one may be", b.meets(0, 2));
        Check.yes("one louder than the limit, one may be", b.meets(0, 3));
    }

    private static void emptyHallMeetsAll() {
        EchoBureau b = new EchoBureau();
        b.addHall(0);
        b.addStandard(500, 1, 0, 0, 1);
        Check.yes("a hall without surfaces", b.meets(0, 0));
        b.addSurface(0, 1, 0);
        Check.yes("a hall of a surface of hardness 0", b.meets(0, 0));
        b.addSurface(0, 60, 1);
        Check.no("a hall with an echo at 360", b.meets(0, 0));
        Check.equal("inspections() behind meets()", b.inspections(), 0);
        Check.no("isCertified(0) behind meets()", b.isCertified(0));
    }

    private static void hallsMeeting() {
        EchoBureau b = new EchoBureau();
        b.addStandard(100, 1, 99, 3000, 1);
        Check.equal("hallsMeeting(0) without halls", b.hallsMeeting(0), 0);
        b.addHall(0);
        b.addHall(0);
        b.addHall(90);
        b.addSurface(1, 10, 99);
        b.addSurface(2, 20, 50);
        Check.equal("hallsMeeting(0)", b.hallsMeeting(0), 2);
        for (int bad : new int[] {-1, 1, 5, Integer.MIN_VALUE, Integer.MAX_VALUE}) {
            Check.refused(b, "hallsMeeting(" + bad + ")", Check.INDEX, () -> b.hallsMeeting(bad));
        }
    }

    private static void inspect() {
        EchoBureau b = new EchoBureau();
        b.addHall(0);
        b.addSurface(0, 10, 9);
        b.addStandard(0, 1, 99, 3000, 20);
        b.addStandard(0, 1, 1, 3000, 30);
        b.addStandard(0, 90, 1, 3000, 40);
        Check.yes("inspect(0, 0)", b.inspect(0, 0));
        Check.equal("certifiedBy(0)", b.certifiedBy(0), 0);
        Check.equal("daysLeft(0)", b.daysLeft(0), 20);
        b.passDays(3);
        Check.yes("inspect(0, 0) again", b.inspect(0, 0));
        Check.equal("daysLeft(0), anew", b.daysLeft(0), 20);
        b.passDays(4);
        b.clean(0);
        Check.no("inspect(0, 1)", b.inspect(0, 1));
        Check.equal("certifiedBy(0), of another one still", b.certifiedBy(0), 0);
        Check.equal("daysLeft(0), of another one still", b.daysLeft(0), 16);
        Check.yes("inspect(0, 2)", b.inspect(0, 2));
        Check.equal("certifiedBy(0), in its place", b.certifiedBy(0), 2);
        Check.equal("daysLeft(0), in its place", b.daysLeft(0), 40);
        Check.equal("inspections()", b.inspections(), 4);
        Check.equal("certifiedHalls()", b.certifiedHalls(), 1);
        losesItsOwn();
    }

    /** Met with dust alone, and not any more when the hall is clean: so it can fail its own standard. */
    private static void losesItsOwn() {
        EchoBureau b = new EchoBureau();
        b.addHall(0);
        b.addSurface(0, 10, 9);
        b.addStandard(0, 90, 0, 3000, 100);
        b.passDays(5);
        Check.yes("inspect with dust", b.inspect(0, 0));
        b.clean(0);
        Check.yes("isCertified though clean", b.isCertified(0));
        Check.no("inspect, clean", b.inspect(0, 0));
        Check.no("isCertified behind its own inspection", b.isCertified(0));
        Check.equal("daysLeft behind its own inspection", b.daysLeft(0), 0);
        Check.equal("certifiedHalls behind its own inspection", b.certifiedHalls(), 0);
        Check.equal("inspections", b.inspections(), 2);
    }

    private static void revoke() {
        EchoBureau b = new EchoBureau();
        b.addHall(0);
        b.addHall(0);
        b.addStandard(0, 1, 0, 0, 9);
        b.inspect(0, 0);
        b.inspect(1, 0);
        b.passDays(2);
        Check.equal("revoke(0)", b.revoke(0), 7);
        Check.no("isCertified(0)", b.isCertified(0));
        Check.equal("daysLeft(0)", b.daysLeft(0), 0);
        Check.yes("isCertified(1)", b.isCertified(1));
        Check.refused(b, "revoke(0) again", Check.STATE, () -> b.revoke(0));
        Check.refused(b, "certifiedBy(0)", Check.STATE, () -> b.certifiedBy(0));
        Check.refused(b, "revoke(2)", Check.INDEX, () -> b.revoke(2));
        Check.equal("inspections()", b.inspections(), 2);
    }

    private static void passDays() {
        EchoBureau b = new EchoBureau();
        for (int bad : new int[] {0, -1, 101, Integer.MIN_VALUE, Integer.MAX_VALUE}) {
            Check.refused(b, "passDays(" + bad + ")", Check.ARGUMENT, () -> b.passDays(bad));
        }
        b.addHall(0);
        b.passDays(99);
        Check.equal("dustOf(0), 99 days", b.dustOf(0), 99);
        b.addHall(0);
        Check.equal("passDays(1)", b.passDays(1), 0);
        Check.equal("dustOf(0), 100 days", b.dustOf(0), 100);
        Check.equal("dustOf(1), 1 day", b.dustOf(1), 1);
        Check.equal("passDays(100)", b.passDays(100), 0);
        Check.equal("dustOf(0), 200 days", b.dustOf(0), 100);
        Check.equal("dustOf(1), 101 days", b.dustOf(1), 100);
        Check.equal("day()", b.day(), 200);
    }

    private static void certificatesRunOut() {
        EchoBureau b = new EchoBureau();
        for (int i = 0; i < 4; i++) {
            b.addHall(0);
        }
        b.addStandard(0, 1, 0, 0, 1);
        b.addStandard(0, 1, 0, 0, 5);
        b.addStandard(0, 1, 0, 0, 100);
        for (int i = 0; i < 3; i++) {
            b.inspect(i, i);
        }
        Check.equal("certifiedHalls()", b.certifiedHalls(), 3);
        Check.equal("passDays(1)", b.passDays(1), 2);
        Check.no("isCertified(0)", b.isCertified(0));
        Check.equal("passDays(3)", b.passDays(3), 2);
        Check.equal("daysLeft(1)", b.daysLeft(1), 1);
        Check.yes("isCertified(1), the last day", b.isCertified(1));
        Check.equal("certifiedBy(1)", b.certifiedBy(1), 1);
        Check.equal("passDays(1)", b.passDays(1), 1);
        Check.equal("daysLeft(1), run out", b.daysLeft(1), 0);
        Check.refused(b, "certifiedBy(1), run out", Check.STATE, () -> b.certifiedBy(1));
        Check.refused(b, "revoke(1), run out", Check.STATE, () -> b.revoke(1));
        Check.equal("daysLeft(2)", b.daysLeft(2), 95);
        Check.equal("passDays(100), more than are left", b.passDays(100), 0);
        Check.equal("daysLeft(2), run out", b.daysLeft(2), 0);
        Check.equal("certifiedHalls(), all run out", b.certifiedHalls(), 0);
    }

    private static void wrongNumbers() {
        EchoBureau b = new EchoBureau();
        b.addHall(0);
        b.addStandard(0, 1, 0, 0, 1);
        b.inspect(0, 0);
        for (int bad : FAR_OUT) {
            Check.refused(b, "inspect(" + bad + ", 0)", Check.INDEX, () -> b.inspect(bad, 0));
            Check.refused(b, "inspect(0, " + bad + ")", Check.INDEX, () -> b.inspect(0, bad));
            Check.refused(b, "meets(" + bad + ", 0)", Check.INDEX, () -> b.meets(bad, 0));
            Check.refused(b, "meets(0, " + bad + ")", Check.INDEX, () -> b.meets(0, bad));
            Check.refused(b, "revoke(" + bad + ")", Check.INDEX, () -> b.revoke(bad));
            Check.refused(b, "isCertified(" + bad + ")", Check.INDEX, () -> b.isCertified(bad));
            Check.refused(b, "certifiedBy(" + bad + ")", Check.INDEX, () -> b.certifiedBy(bad));
            Check.refused(b, "daysLeft(" + bad + ")", Check.INDEX, () -> b.daysLeft(bad));
        }
        Check.refused(b, "inspect(0, 1)", Check.INDEX, () -> b.inspect(0, 1));
        Check.refused(b, "inspect(1, 0)", Check.INDEX, () -> b.inspect(1, 0));
        Check.refused(b, "meets(0, 1)", Check.INDEX, () -> b.meets(0, 1));
        Check.refused(b, "meets(1, 0)", Check.INDEX, () -> b.meets(1, 0));
        Check.refused(b, "isCertified(1)", Check.INDEX, () -> b.isCertified(1));
        Check.refused(b, "certifiedBy(1)", Check.INDEX, () -> b.certifiedBy(1));
        Check.refused(b, "daysLeft(1)", Check.INDEX, () -> b.daysLeft(1));
        Check.equal("inspections() behind refused ones", b.inspections(), 1);
    }
}
