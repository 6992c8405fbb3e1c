/** The sentences of promises 7 to 10 and 22 to 31 that name an edge, and of their terms, a test for each. */
public final class EdgesOfStandardsTest {
    public static void main(String[] args) throws IllegalAccessException {
        Edges.run(EdgesOfStandardsTest.class, 7, 8, 9, 10, 22, 23, 24, 25, 26, 27, 28, 29, 30, 31);
    }

    /** A hall without surfaces has a certificate of so many days. */
    private static EchoBureau certified(int days) {
        EchoBureau b = new EchoBureau();
        b.addHall(0);
        b.addStandard(0, 1, 0, 0, days);
        b.inspect(0, 0);
        return b;
    }

    /** Standard 0 is met with dust from 5 on and lost when it is clean, standard 1 always, standard 2 never. */
    private static EchoBureau dusty() {
        EchoBureau b = Bureaus.ofOneSurface(0, 10, 9);
        b.addStandard(0, 90, 0, 3000, 30);
        b.addStandard(0, 1, 99, 3000, 20);
        b.addStandard(0, 1, 0, 3000, 10);
        b.passDays(5);
        return b;
    }

    private static EchoBureau fullOfStandards() {
        EchoBureau b = new EchoBureau();
        for (int i = 0; i < 5; i++) {
            b.addStandard(0, 1, 0, 0, 1);
        }
        return b;
    }

    /** Eight halls without surfaces, with certificates of 1, 1, 2, 2, 2, 100, 100 and 100 days. */
    private static EchoBureau eightCertified() {
        EchoBureau b = new EchoBureau();
        b.addStandard(0, 1, 0, 0, 1);
        b.addStandard(0, 1, 0, 0, 2);
        b.addStandard(0, 1, 0, 0, 100);
        int[] standards = {0, 0, 1, 1, 1, 2, 2, 2};
        for (int hall = 0; hall < 8; hall++) {
            b.addHall(0);
            b.inspect(hall, standards[hall]);
        }
        return b;
    }

    // ---- 7: addStandard

    /** All five arguments at an end of their ranges. */
    private static void promise7AddStandardTakesTheLeastOfAll() {
        EchoBureau b = new EchoBureau();
        Check.equal("addStandard(0, 1, 0, 0, 1)", b.addStandard(0, 1, 0, 0, 1), 0);
        Check.equal("standards()", b.standards(), 1);
    }

    private static void promise7AddStandardTakesTheGreatestOfAll() {
        EchoBureau b = new EchoBureau();
        Check.equal("addStandard(500, 1000, 99, 3000, 100)", b.addStandard(500, 1000, 99, 3000, 100), 0);
        Check.equal("standards()", b.standards(), 1);
    }

    private static void promise7AddStandardRefusesAnEarliestMomentOutside() {
        Refusal.outside("earliest", 0, 500, Bureaus::some, (b, n) -> b.addStandard(n, 1, 0, 0, 1));
        Refusal.outside("earliest", 0, 500, Bureaus::empty, (b, n) -> b.addStandard(n, 1000, 99, 3000, 100));
    }

    private static void promise7AddStandardRefusesALimitOutside() {
        Refusal.outside("limit", 1, 1000, Bureaus::some, (b, n) -> b.addStandard(0, n, 0, 0, 1));
        Refusal.outside("limit", 1, 1000, Bureaus::empty, (b, n) -> b.addStandard(500, n, 99, 3000, 100));
    }

    private static void promise7AddStandardRefusesAGreatestNumberOutside() {
        Refusal.outside("most", 0, 99, Bureaus::some, (b, n) -> b.addStandard(0, 1, n, 0, 1));
        Refusal.outside("most", 0, 99, Bureaus::empty, (b, n) -> b.addStandard(500, 1000, n, 3000, 100));
    }

    private static void promise7AddStandardRefusesALatestMomentOutside() {
        Refusal.outside("latest", 0, 3000, Bureaus::some, (b, n) -> b.addStandard(0, 1, 0, n, 1));
        Refusal.outside("latest", 0, 3000, Bureaus::empty, (b, n) -> b.addStandard(500, 1000, 99, n, 100));
    }

    private static void promise7AddStandardRefusesDaysOutside() {
        Refusal.outside("days", 1, 100, Bureaus::some, (b, n) -> b.addStandard(0, 1, 0, 0, n));
        Refusal.outside("days", 1, 100, Bureaus::empty, (b, n) -> b.addStandard(500, 1000, 99, 3000, n));
    }

    private static void promise7AddStandardTakesAnEarliestMomentBehindTheLatestOne() {
        EchoBureau b = new EchoBureau();
        Check.equal("addStandard(500, 1, 0, 0, 1)", b.addStandard(500, 1, 0, 0, 1), 0);
    }

    private static void promise7AddStandardNumbersFrom0To4() {
        EchoBureau b = new EchoBureau();
        for (int i = 0; i < 5; i++) {
            Check.equal("addStandard no. " + i, b.addStandard(0, 1, 0, 0, 1 + i), i);
        }
        Check.equal("standards()", b.standards(), 5);
        b.addHall(0);
        for (int i = 0; i < 5; i++) {
            b.inspect(0, i);
            Check.equal("certifiedBy(0)", b.certifiedBy(0), i);
            Check.equal("daysLeft(0), of standard " + i, b.daysLeft(0), 1 + i);
        }
    }

    private static void promise7AddStandardRefusesTheSixth() {
        Refusal.due("addStandard, no halls", Check.STATE, EdgesOfStandardsTest::fullOfStandards,
            b -> b.addStandard(0, 1, 0, 0, 1));
        Refusal.due("addStandard", Check.STATE, Bureaus::full, b -> b.addStandard(0, 1, 0, 0, 1));
        Refusal.due("addStandard", Check.STATE, Bureaus::full, b -> b.addStandard(500, 1000, 99, 3000, 100));
    }

    private static void promise7AddStandardOfAFullBureauNamesTheArgumentsFirst() {
        Refusal.outside("earliest", 0, 500, Bureaus::full, (b, n) -> b.addStandard(n, 1, 0, 0, 1));
        Refusal.outside("limit", 1, 1000, Bureaus::full, (b, n) -> b.addStandard(0, n, 0, 0, 1));
        Refusal.outside("most", 0, 99, Bureaus::full, (b, n) -> b.addStandard(0, 1, n, 0, 1));
        Refusal.outside("latest", 0, 3000, Bureaus::full, (b, n) -> b.addStandard(0, 1, 0, n, 1));
        Refusal.outside("days", 1, 100, Bureaus::full, (b, n) -> b.addStandard(0, 1, 0, 0, n));
    }

    private static void promise7AddStandardOfAllWrongIsRefusedOnce() {
        Refusal.argument("all wrong", Bureaus::some, b -> b.addStandard(-1, 0, -1, -1, 0));
        Refusal.argument("all wrong", Bureaus::full, b -> b.addStandard(501, 1001, 100, 3001, 101));
    }

    // ---- 8: inspect

    private static void promise8InspectRefusesAHallThatIsNotThere() {
        Refusal.noSuchHall("inspect(h, 0)", (b, hall) -> b.inspect(hall, 0));
    }

    private static void promise8InspectRefusesAStandardThatIsNotThere() {
        Refusal.noSuchStandard("inspect(0, s)", (b, standard) -> b.inspect(0, standard));
    }

    private static void promise8InspectRefusesIfNeitherIsThere() {
        Refusal.noSuchHall("inspect(h, -1)", (b, hall) -> b.inspect(hall, -1));
        Refusal.noSuchHall("inspect(h, 5)", (b, hall) -> b.inspect(hall, 5));
    }

    private static void promise8InspectOfTheLastHallAndTheLastStandard() {
        EchoBureau b = Bureaus.full();
        Check.no("inspect(7, 4)", b.inspect(7, 4));
        Check.equal("certifiedBy(7)", b.certifiedBy(7), 2);
        b.setDamping(7, 90);
        Check.yes("inspect(7, 4), damped", b.inspect(7, 4));
        Check.equal("certifiedBy(7)", b.certifiedBy(7), 4);
        Check.equal("daysLeft(7)", b.daysLeft(7), 14);
    }

    private static void promise8InspectGivesAllDaysOfTheStandard() {
        EchoBureau least = certified(1);
        Check.equal("daysLeft(0), of 1", least.daysLeft(0), 1);
        EchoBureau greatest = certified(100);
        Check.equal("daysLeft(0), of 100", greatest.daysLeft(0), 100);
    }

    private static void promise8InspectGivesAllDaysAnew() {
        EchoBureau b = certified(100);
        b.passDays(99);
        Check.equal("daysLeft(0)", b.daysLeft(0), 1);
        Check.yes("inspect(0, 0)", b.inspect(0, 0));
        Check.equal("daysLeft(0), anew", b.daysLeft(0), 100);
        Check.equal("certifiedHalls()", b.certifiedHalls(), 1);
    }

    private static void promise8InspectPutsACertificateInThePlaceOfAnother() {
        EchoBureau b = dusty();
        b.inspect(0, 0);
        Check.equal("certifiedBy(0)", b.certifiedBy(0), 0);
        Check.equal("daysLeft(0)", b.daysLeft(0), 30);
        b.inspect(0, 1);
        Check.equal("certifiedBy(0), of another", b.certifiedBy(0), 1);
        Check.equal("daysLeft(0), fewer", b.daysLeft(0), 20);
        b.inspect(0, 0);
        Check.equal("certifiedBy(0), back", b.certifiedBy(0), 0);
        Check.equal("daysLeft(0), more", b.daysLeft(0), 30);
        Check.equal("certifiedHalls()", b.certifiedHalls(), 1);
    }

    private static void promise8InspectNotMetTakesACertificateOfThisStandard() {
        EchoBureau b = dusty();
        Check.yes("inspect(0, 0), dusty", b.inspect(0, 0));
        b.clean(0);
        Check.no("inspect(0, 0), clean", b.inspect(0, 0));
        Check.no("isCertified(0)", b.isCertified(0));
        Check.equal("daysLeft(0)", b.daysLeft(0), 0);
    }

    private static void promise8InspectNotMetLeavesACertificateOfAnotherStandard() {
        EchoBureau b = dusty();
        b.inspect(0, 0);
        b.passDays(1);
        Check.no("inspect(0, 2)", b.inspect(0, 2));
        Check.equal("certifiedBy(0)", b.certifiedBy(0), 0);
        Check.equal("daysLeft(0)", b.daysLeft(0), 29);
    }

    private static void promise8InspectNotMetOfAHallWithoutACertificateGivesNone() {
        EchoBureau b = dusty();
        Check.no("inspect(0, 2)", b.inspect(0, 2));
        Check.no("isCertified(0)", b.isCertified(0));
        Check.equal("daysLeft(0)", b.daysLeft(0), 0);
    }

    private static void promise8InspectOfOneHallLeavesTheOthers() {
        EchoBureau b = Bureaus.some();
        b.inspect(0, 0);
        Check.equal("daysLeft(0)", b.daysLeft(0), 20);
        Check.equal("daysLeft(1)", b.daysLeft(1), 93);
        Check.no("isCertified(2)", b.isCertified(2));
    }

    // ---- 9: revoke

    private static void promise9RevokeRefusesAHallThatIsNotThere() {
        Refusal.noSuchHall("revoke", (b, hall) -> b.revoke(hall));
    }

    private static void promise9RevokeRefusesAHallThatNeverHadACertificate() {
        Refusal.due("revoke(2)", Check.STATE, Bureaus::some, b -> b.revoke(2));
        Refusal.due("revoke(4)", Check.STATE, Bureaus::full, b -> b.revoke(4));
    }

    private static void promise9RevokeRefusesAHallThatLostItsCertificate() {
        Refusal.due("revoke(0), revoked", Check.STATE, EdgesOfStandardsTest::revoked, b -> b.revoke(0));
        Refusal.due("revoke(0), run out", Check.STATE, EdgesOfStandardsTest::runOut, b -> b.revoke(0));
        Refusal.due("revoke(0), changed by hand", Check.STATE, EdgesOfStandardsTest::damped, b -> b.revoke(0));
    }

    private static EchoBureau revoked() {
        EchoBureau b = certified(3);
        b.revoke(0);
        return b;
    }

    private static EchoBureau runOut() {
        EchoBureau b = certified(3);
        b.passDays(3);
        return b;
    }

    private static EchoBureau damped() {
        EchoBureau b = certified(3);
        b.setDamping(0, 1);
        return b;
    }

    private static void promise9RevokeReturnsAllDaysAtOnce() {
        Check.equal("revoke(0), of 100", certified(100).revoke(0), 100);
        Check.equal("revoke(0), of 1", certified(1).revoke(0), 1);
    }

    private static void promise9RevokeReturns1OnTheLastDay() {
        EchoBureau b = certified(100);
        b.passDays(99);
        Check.equal("revoke(0)", b.revoke(0), 1);
        Check.no("isCertified(0)", b.isCertified(0));
        Check.equal("daysLeft(0)", b.daysLeft(0), 0);
    }

    private static void promise9RevokeTakesItFromThisHallAlone() {
        EchoBureau b = Bureaus.some();
        Check.equal("revoke(1)", b.revoke(1), 93);
        Check.no("isCertified(1)", b.isCertified(1));
        Check.equal("daysLeft(0)", b.daysLeft(0), 13);
        Check.equal("certifiedHalls()", b.certifiedHalls(), 1);
    }

    // ---- 10: passDays

    private static void promise10PassDaysRefusesDaysOutside() {
        Refusal.outside("passDays", 1, 100, Bureaus::empty, (b, days) -> b.passDays(days));
        Refusal.outside("passDays", 1, 100, Bureaus::some, (b, days) -> b.passDays(days));
        Refusal.outside("passDays", 1, 100, Bureaus::full, (b, days) -> b.passDays(days));
    }

    private static void promise10PassDaysTakes1() {
        EchoBureau b = certified(100);
        Check.equal("passDays(1)", b.passDays(1), 1);
        Check.equal("day()", b.day(), 1);
        Check.equal("dustOf(0)", b.dustOf(0), 1);
        Check.equal("daysLeft(0)", b.daysLeft(0), 99);
    }

    private static void promise10PassDaysTakes100() {
        EchoBureau b = certified(100);
        Check.equal("passDays(100)", b.passDays(100), 0);
        Check.equal("day()", b.day(), 100);
        Check.equal("dustOf(0)", b.dustOf(0), 100);
        Check.equal("daysLeft(0)", b.daysLeft(0), 0);
    }

    private static void promise10PassDaysWithoutHallsReturns0() {
        EchoBureau b = new EchoBureau();
        Check.equal("passDays(100)", b.passDays(100), 0);
        Check.equal("day()", b.day(), 100);
    }

    private static void promise10PassDaysReturnsTheHallsThatHaveACertificateThen() {
        EchoBureau b = eightCertified();
        Check.equal("passDays(1), the first", b.passDays(1), 6);
        Check.equal("passDays(1), the second", b.passDays(1), 3);
        Check.equal("passDays(97)", b.passDays(97), 3);
        Check.equal("passDays(1), the last", b.passDays(1), 0);
        Check.equal("passDays(1), behind it", b.passDays(1), 0);
        EchoBureau all = eightCertified();
        all.inspect(0, 2);
        all.inspect(1, 2);
        Check.equal("passDays(1), of all halls", all.passDays(1), 8);
    }

    private static void promise10PassDaysTakesACertificateWith0DaysLeft() {
        EchoBureau b = certified(50);
        Check.equal("passDays(49)", b.passDays(49), 1);
        Check.equal("daysLeft(0)", b.daysLeft(0), 1);
        Check.equal("passDays(1)", b.passDays(1), 0);
        Check.no("isCertified(0)", b.isCertified(0));
        Check.thrown("certifiedBy(0)", Check.STATE, () -> b.certifiedBy(0));
    }

    private static void promise10PassDaysOfMoreThanAreLeftLeaves0() {
        EchoBureau b = certified(50);
        Check.equal("passDays(51)", b.passDays(51), 0);
        Check.equal("daysLeft(0)", b.daysLeft(0), 0);
        EchoBureau least = certified(1);
        Check.equal("passDays(100)", least.passDays(100), 0);
        Check.equal("daysLeft(0)", least.daysLeft(0), 0);
    }

    private static void promise10PassDaysMakesNoMoreThan100Dust() {
        EchoBureau b = certified(1);
        b.passDays(99);
        b.passDays(2);
        Check.equal("dustOf(0), 99 and 2 days", b.dustOf(0), 100);
        b.passDays(100);
        Check.equal("dustOf(0), 201 days", b.dustOf(0), 100);
        Check.equal("clean(0)", b.clean(0), 100);
        b.passDays(1);
        Check.equal("dustOf(0), cleaned and a day", b.dustOf(0), 1);
    }

    // ---- 22: meets

    private static void promise22MeetsRefusesAHallThatIsNotThere() {
        Refusal.noSuchHall("meets(h, 0)", (b, hall) -> b.meets(hall, 0));
        Refusal.noSuchHall("meets(h, 5)", (b, hall) -> b.meets(hall, 5));
    }

    private static void promise22MeetsRefusesAStandardThatIsNotThere() {
        Refusal.noSuchStandard("meets(0, s)", (b, standard) -> b.meets(0, standard));
    }

    /** The only echo comes at 360, as loud as 10. */
    private static EchoBureau ofOneEcho() {
        EchoBureau b = Bureaus.ofOneSurface(0, 60, 1);
        Check.equal("echoes(0, 1000)", b.echoes(0, 1000), 1);
        Check.equal("loudnessAt(0, 1000, 360)", b.loudnessAt(0, 1000, 360), 10);
        return b;
    }

    private static void promise22MeetsIfNoneComesAheadOfTheEarliestMoment() {
        EchoBureau b = ofOneEcho();
        b.addStandard(359, 1, 99, 3000, 1);
        b.addStandard(360, 1, 99, 3000, 1);
        b.addStandard(361, 1, 99, 3000, 1);
        b.addStandard(0, 1, 99, 3000, 1);
        b.addStandard(500, 1, 99, 3000, 1);
        Check.yes("earliest 359", b.meets(0, 0));
        Check.yes("earliest 360", b.meets(0, 1));
        Check.no("earliest 361", b.meets(0, 2));
        Check.yes("earliest 0", b.meets(0, 3));
        Check.no("earliest 500", b.meets(0, 4));
    }

    private static void promise22MeetsIfNoneComesBehindTheLatestMoment() {
        EchoBureau b = ofOneEcho();
        b.addStandard(0, 1, 99, 359, 1);
        b.addStandard(0, 1, 99, 360, 1);
        b.addStandard(0, 1, 99, 361, 1);
        b.addStandard(0, 1, 99, 0, 1);
        Check.no("latest 359", b.meets(0, 0));
        Check.yes("latest 360", b.meets(0, 1));
        Check.yes("latest 361", b.meets(0, 2));
        Check.no("latest 0", b.meets(0, 3));
    }

    private static void promise22MeetsWithTheLatestMomentOf3000() {
        EchoBureau b = Bureaus.ofOneSurface(0, 50, 99);
        b.addStandard(0, 1, 99, 3000, 1);
        b.addStandard(0, 1, 99, 2999, 1);
        Check.yes("latest 3000, an echo at 3000", b.meets(0, 0));
        Check.no("latest 2999, an echo at 3000", b.meets(0, 1));
    }

    private static void promise22MeetsIfTheSoftEchoesComeInTimeToo() {
        EchoBureau b = ofOneEcho();
        b.addStandard(361, 1000, 99, 3000, 1);
        b.addStandard(0, 1000, 99, 359, 1);
        Check.no("a soft echo too early", b.meets(0, 0));
        Check.no("a soft echo too late", b.meets(0, 1));
    }

    private static void promise22MeetsIfNoMoreThanTheGreatestNumberAreLoud() {
        EchoBureau b = ofOneEcho();
        b.addStandard(0, 1, 0, 3000, 1);
        b.addStandard(0, 1, 1, 3000, 1);
        Check.no("one loud echo, none may be", b.meets(0, 0));
        Check.yes("one loud echo, one may be", b.meets(0, 1));
    }

    private static void promise22MeetsWithAnEchoAsLoudAsTheLimit() {
        EchoBureau b = ofOneEcho();
        b.addStandard(0, 9, 0, 3000, 1);
        b.addStandard(0, 10, 0, 3000, 1);
        b.addStandard(0, 11, 0, 3000, 1);
        b.addStandard(0, 1000, 0, 3000, 1);
        Check.no("limit 9", b.meets(0, 0));
        Check.no("limit 10", b.meets(0, 1));
        Check.yes("limit 11", b.meets(0, 2));
        Check.yes("limit 1000", b.meets(0, 3));
    }

    /** Up to 3000, five rows of 16 echoes and one of 19 (each 156) are 99; with one of 20 (each 150), 100. */
    private static void promise22MeetsWith99LoudEchoesAndNotWith100() {
        EchoBureau b = new EchoBureau();
        b.addHall(0);
        for (int i = 0; i < 5; i++) {
            b.addSurface(0, 30, 99);
        }
        b.addSurface(0, 26, 99);
        b.addStandard(0, 1, 99, 3000, 1);
        b.addStandard(0, 1, 98, 3000, 1);
        Check.equal("echoes(0, 1000)", b.echoes(0, 1000), 99);
        Check.yes("99 may be", b.meets(0, 0));
        Check.no("98 may be", b.meets(0, 1));
        b.moveSurface(0, 5, 25);
        Check.equal("echoes(0, 1000)", b.echoes(0, 1000), 100);
        Check.no("99 may be, 100 are", b.meets(0, 0));
    }

    private static void promise22MeetsAllStandardsWithoutAnEcho() {
        EchoBureau b = new EchoBureau();
        b.addHall(0);
        b.addStandard(500, 1, 0, 0, 1);
        b.addStandard(0, 1, 0, 3000, 1);
        Check.yes("without surfaces", b.meets(0, 0));
        Check.yes("without surfaces", b.meets(0, 1));
        b.addSurface(0, 1, 0);
        Check.yes("with a surface of hardness 0", b.meets(0, 0));
        Check.yes("with a surface of hardness 0", b.meets(0, 1));
    }

    private static void promise22MeetsGivesNoCertificate() {
        EchoBureau b = Bureaus.some();
        Check.yes("meets(0, 0)", b.meets(0, 0));
        Check.equal("daysLeft(0)", b.daysLeft(0), 13);
        Check.equal("inspections()", b.inspections(), 2);
    }

    // ---- 23: hallsMeeting

    private static void promise23HallsMeetingRefusesAStandardThatIsNotThere() {
        Refusal.noSuchStandard("hallsMeeting", (b, standard) -> b.hallsMeeting(standard));
    }

    private static void promise23HallsMeetingWithoutHallsIs0() {
        EchoBureau b = fullOfStandards();
        Check.equal("hallsMeeting(0)", b.hallsMeeting(0), 0);
        Check.equal("hallsMeeting(4)", b.hallsMeeting(4), 0);
    }

    private static void promise23HallsMeetingIs8IfAllDo() {
        Check.equal("hallsMeeting(0)", eightCertified().hallsMeeting(0), 8);
    }

    private static void promise23HallsMeetingIs0IfNoneDoes() {
        EchoBureau b = ofOneEcho();
        b.addStandard(500, 1, 0, 0, 1);
        Check.equal("hallsMeeting(0)", b.hallsMeeting(0), 0);
    }

    private static void promise23HallsMeetingCountsTheFirstAndTheLastHall() {
        EchoBureau b = eightCertified();
        for (int hall = 1; hall < 7; hall++) {
            b.addSurface(hall, 60, 99);
        }
        Check.equal("hallsMeeting(2)", b.hallsMeeting(2), 2);
        b.addSurface(7, 60, 99);
        Check.equal("hallsMeeting(2), not the last", b.hallsMeeting(2), 1);
        b.addSurface(0, 60, 99);
        Check.equal("hallsMeeting(2), not the first", b.hallsMeeting(2), 0);
    }

    // ---- 24 to 26: a certificate

    private static void promise24IsCertifiedRefusesAHallThatIsNotThere() {
        Refusal.noSuchHall("isCertified", (b, hall) -> b.isCertified(hall));
    }

    private static void promise24IsCertifiedAHallOnItsLastDayAndNotBehindIt() {
        EchoBureau b = certified(2);
        Check.yes("isCertified(0), 2 days left", b.isCertified(0));
        b.passDays(1);
        Check.yes("isCertified(0), 1 day left", b.isCertified(0));
        b.passDays(1);
        Check.no("isCertified(0), none left", b.isCertified(0));
    }

    private static void promise24IsCertifiedNoHallAtFirst() {
        EchoBureau b = new EchoBureau();
        b.addStandard(0, 1, 0, 0, 1);
        b.addHall(0);
        Check.no("isCertified(0)", b.isCertified(0));
    }

    private static void promise25CertifiedByRefusesAHallThatIsNotThere() {
        Refusal.noSuchHall("certifiedBy", (b, hall) -> b.certifiedBy(hall));
    }

    private static void promise25CertifiedByRefusesAHallWithoutACertificate() {
        Refusal.due("certifiedBy(2)", Check.STATE, Bureaus::some, b -> b.certifiedBy(2));
        Refusal.due("certifiedBy(4)", Check.STATE, Bureaus::full, b -> b.certifiedBy(4));
        Refusal.due("certifiedBy(0), revoked", Check.STATE, EdgesOfStandardsTest::revoked, b -> b.certifiedBy(0));
        Refusal.due("certifiedBy(0), run out", Check.STATE, EdgesOfStandardsTest::runOut, b -> b.certifiedBy(0));
        Refusal.due("certifiedBy(0), by hand", Check.STATE, EdgesOfStandardsTest::damped, b -> b.certifiedBy(0));
    }

    private static void promise25CertifiedByTheFirstAndTheLastStandard() {
        EchoBureau b = fullOfStandards();
        b.addHall(0);
        b.inspect(0, 0);
        Check.equal("certifiedBy(0)", b.certifiedBy(0), 0);
        b.inspect(0, 4);
        Check.equal("certifiedBy(0)", b.certifiedBy(0), 4);
    }

    private static void promise26DaysLeftRefusesAHallThatIsNotThere() {
        Refusal.noSuchHall("daysLeft", (b, hall) -> b.daysLeft(hall));
    }

    private static void promise26DaysLeftWithoutACertificateIs0() {
        Check.equal("daysLeft(2), never", Bureaus.some().daysLeft(2), 0);
        Check.equal("daysLeft(0), revoked", revoked().daysLeft(0), 0);
        Check.equal("daysLeft(0), run out", runOut().daysLeft(0), 0);
        Check.equal("daysLeft(0), changed by hand", damped().daysLeft(0), 0);
    }

    private static void promise26DaysLeftIsFrom100To1() {
        EchoBureau b = certified(100);
        for (int left = 100; left > 0; left--) {
            Check.equal("daysLeft(0)", b.daysLeft(0), left);
            b.passDays(1);
        }
        Check.equal("daysLeft(0)", b.daysLeft(0), 0);
    }

    // ---- 27 to 31: the bureau

    private static void promise27HallsIs0AtFirst() {
        Check.equal("halls()", new EchoBureau().halls(), 0);
    }

    private static void promise27HallsIs8AtMost() {
        EchoBureau b = Bureaus.full();
        Check.equal("halls()", b.halls(), 8);
        Check.thrown("addHall(0)", Check.STATE, () -> b.addHall(0));
        Check.equal("halls(), refused", b.halls(), 8);
    }

    private static void promise28StandardsIs0AtFirst() {
        Check.equal("standards()", new EchoBureau().standards(), 0);
    }

    private static void promise28StandardsIs5AtMost() {
        EchoBureau b = Bureaus.full();
        Check.equal("standards()", b.standards(), 5);
        Check.thrown("addStandard", Check.STATE, () -> b.addStandard(0, 1, 0, 0, 1));
        Check.equal("standards(), refused", b.standards(), 5);
    }

    private static void promise29DayIs0AtFirst() {
        Check.equal("day()", new EchoBureau().day(), 0);
    }

    private static void promise29DayGoesOnBehind100() {
        EchoBureau b = new EchoBureau();
        b.passDays(100);
        b.passDays(100);
        b.passDays(1);
        Check.equal("day()", b.day(), 201);
    }

    private static void promise29DayOfAsManyCallsAsAnObjectIsUsedFor() {
        EchoBureau b = new EchoBureau();
        for (int call = 1; call < 512; call++) {
            b.passDays(100);
        }
        Check.equal("day()", b.day(), 51100);
    }

    private static void promise30InspectionsIs0AtFirst() {
        Check.equal("inspections()", new EchoBureau().inspections(), 0);
    }

    private static void promise30InspectionsCountsThoseThatAreNotMet() {
        EchoBureau b = dusty();
        b.inspect(0, 2);
        Check.equal("inspections(), not met", b.inspections(), 1);
        b.inspect(0, 1);
        Check.equal("inspections(), met", b.inspections(), 2);
        b.inspect(0, 1);
        Check.equal("inspections(), met again", b.inspections(), 3);
    }

    private static void promise30InspectionsCountsNoneThatIsRefused() {
        EchoBureau b = dusty();
        Check.thrown("inspect(1, 0)", Check.INDEX, () -> b.inspect(1, 0));
        Check.thrown("inspect(0, 3)", Check.INDEX, () -> b.inspect(0, 3));
        Check.equal("inspections()", b.inspections(), 0);
    }

    private static void promise30InspectionsIsNoLessBehindARevokedCertificate() {
        Check.equal("inspections(), revoked", revoked().inspections(), 1);
        Check.equal("inspections(), run out", runOut().inspections(), 1);
    }

    private static void promise30InspectionsOfAsManyCallsAsAnObjectIsUsedFor() {
        EchoBureau b = new EchoBureau();
        b.addHall(0);
        b.addStandard(0, 1, 0, 0, 1);
        for (int i = 0; i < 509; i++) {
            b.inspect(0, 0);
        }
        Check.equal("inspections()", b.inspections(), 509);
    }

    private static void promise31CertifiedHallsIs0WithoutHalls() {
        Check.equal("certifiedHalls()", new EchoBureau().certifiedHalls(), 0);
    }

    private static void promise31CertifiedHallsIs8IfAllAre() {
        Check.equal("certifiedHalls()", eightCertified().certifiedHalls(), 8);
    }

    private static void promise31CertifiedHallsIsLessByEachOneLost() {
        EchoBureau b = eightCertified();
        b.revoke(7);
        Check.equal("certifiedHalls(), revoked", b.certifiedHalls(), 7);
        b.setDamping(6, 0);
        Check.equal("certifiedHalls(), changed by hand", b.certifiedHalls(), 6);
        b.clean(5);
        Check.equal("certifiedHalls(), cleaned", b.certifiedHalls(), 6);
        b.passDays(1);
        Check.equal("certifiedHalls(), two run out", b.certifiedHalls(), 4);
    }
}
