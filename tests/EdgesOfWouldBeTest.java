import java.math.BigInteger;

/** The sentences of promises 32 to 37 that name an edge, and of their terms, a test for each. */
public final class EdgesOfWouldBeTest {
    public static void main(String[] args) throws IllegalAccessException {
        Edges.run(EdgesOfWouldBeTest.class, 32, 33, 34, 35, 36, 37);
    }

    /** One echo, as loud as 900 undamped and as 90 with the damping of 90; and a standard of this limit. */
    private static EchoBureau oneLoud(int limit) {
        EchoBureau b = Bureaus.ofOneSurface(45, 60, 90);
        b.addStandard(0, limit, 0, 3000, 10);
        return b;
    }

    /** Standard 0 is met by silent halls alone. */
    private static EchoBureau forSilentOnes() {
        EchoBureau b = new EchoBureau();
        b.addStandard(500, 1, 0, 0, 10);
        return b;
    }

    // ---- 32: meetsWithDamping

    private static void promise32MeetsWithDampingRefusesAHallThatIsNotThere() {
        Refusal.noSuchHall("meetsWithDamping(h, 0, 0)", (b, hall) -> b.meetsWithDamping(hall, 0, 0));
    }

    private static void promise32MeetsWithDampingRefusesAStandardThatIsNotThere() {
        Refusal.noSuchStandard("meetsWithDamping(0, s, 0)", (b, standard) -> b.meetsWithDamping(0, standard, 0));
    }

    private static void promise32MeetsWithDampingNamesTheHallAndTheStandardFirst() {
        Refusal.noSuchHall("meetsWithDamping(h, 0, 91)", (b, hall) -> b.meetsWithDamping(hall, 0, 91));
        Refusal.noSuchHall("meetsWithDamping(h, -1, -1)", (b, hall) -> b.meetsWithDamping(hall, -1, -1));
        Refusal.noSuchStandard("meetsWithDamping(0, s, 91)", (b, standard) -> b.meetsWithDamping(0, standard, 91));
        Refusal.noSuchStandard("meetsWithDamping(0, s, -1)", (b, standard) -> b.meetsWithDamping(0, standard, -1));
    }

    private static void promise32MeetsWithDampingRefusesADampingOutside() {
        Refusal.outside("meetsWithDamping(0, 0, d)", 0, 90, Bureaus::some, (b, d) -> b.meetsWithDamping(0, 0, d));
        Refusal.outside("meetsWithDamping(1, 1, d)", 0, 90, Bureaus::some, (b, d) -> b.meetsWithDamping(1, 1, d));
        Refusal.outside("meetsWithDamping(7, 4, d)", 0, 90, Bureaus::full, (b, d) -> b.meetsWithDamping(7, 4, d));
    }

    private static void promise32MeetsWithDampingTakes0() {
        Check.yes("limit 901", oneLoud(901).meetsWithDamping(0, 0, 0));
        Check.no("limit 900", oneLoud(900).meetsWithDamping(0, 0, 0));
    }

    private static void promise32MeetsWithDampingTakes90() {
        Check.yes("limit 91", oneLoud(91).meetsWithDamping(0, 0, 90));
        Check.no("limit 90", oneLoud(90).meetsWithDamping(0, 0, 90));
    }

    private static void promise32MeetsWithDampingOfAHallWithoutSurfaces() {
        EchoBureau b = forSilentOnes();
        b.addHall(0);
        Check.yes("meetsWithDamping(0, 0, 0)", b.meetsWithDamping(0, 0, 0));
        Check.yes("meetsWithDamping(0, 0, 90)", b.meetsWithDamping(0, 0, 90));
    }

    private static void promise32MeetsWithDampingUnderTheDustThatIsNow() {
        EchoBureau b = oneLoud(900);
        b.passDays(4);
        Check.no("dust 4", b.meetsWithDamping(0, 0, 0));
        b.passDays(1);
        Check.yes("dust 5", b.meetsWithDamping(0, 0, 0));
        b.clean(0);
        Check.no("clean", b.meetsWithDamping(0, 0, 0));
    }

    private static void promise32MeetsWithDampingChangesNothing() {
        Refusal.unchanged("meetsWithDamping(0, 0, 90)", Bureaus::some, b -> b.meetsWithDamping(0, 0, 90));
        Refusal.unchanged("meetsWithDamping(7, 4, 0)", Bureaus::full, b -> b.meetsWithDamping(7, 4, 0));
    }

    // ---- 33: leastDamping

    private static void promise33LeastDampingRefusesAHallThatIsNotThere() {
        Refusal.noSuchHall("leastDamping(h, 0)", (b, hall) -> b.leastDamping(hall, 0));
        Refusal.noSuchHall("leastDamping(h, 5)", (b, hall) -> b.leastDamping(hall, 5));
    }

    private static void promise33LeastDampingRefusesAStandardThatIsNotThere() {
        Refusal.noSuchStandard("leastDamping(0, s)", (b, standard) -> b.leastDamping(0, standard));
    }

    private static void promise33LeastDampingIs0IfNoneIsNeeded() {
        Check.equal("limit 901", oneLoud(901).leastDamping(0, 0), 0);
        Check.equal("limit 900", oneLoud(900).leastDamping(0, 0), 1);
    }

    private static void promise33LeastDampingIs90AtMost() {
        Check.equal("limit 100", oneLoud(100).leastDamping(0, 0), 89);
        Check.equal("limit 99", oneLoud(99).leastDamping(0, 0), 90);
        Check.equal("limit 91", oneLoud(91).leastDamping(0, 0), 90);
    }

    private static void promise33LeastDampingIsMinus1IfThereIsNone() {
        Check.equal("limit 90", oneLoud(90).leastDamping(0, 0), -1);
    }

    private static void promise33LeastDampingMayBeLessThanItIs() {
        EchoBureau b = oneLoud(901);
        b.setDamping(0, 90);
        Check.equal("leastDamping(0, 0)", b.leastDamping(0, 0), 0);
        Check.equal("dampingOf(0)", b.dampingOf(0), 90);
    }

    private static void promise33LeastDampingOfAHallWithoutSurfacesIs0() {
        EchoBureau b = forSilentOnes();
        b.addHall(90);
        Check.equal("leastDamping(0, 0)", b.leastDamping(0, 0), 0);
    }

    private static void promise33LeastDampingUnderTheDustThatIsNow() {
        EchoBureau b = oneLoud(900);
        b.passDays(4);
        Check.equal("leastDamping(0, 0), dust 4", b.leastDamping(0, 0), 1);
        b.passDays(1);
        Check.equal("leastDamping(0, 0), dust 5", b.leastDamping(0, 0), 0);
        b.clean(0);
        Check.equal("leastDamping(0, 0), clean", b.leastDamping(0, 0), 1);
    }

    private static void promise33LeastDampingChangesNothing() {
        Refusal.unchanged("leastDamping(0, 1)", Bureaus::some, b -> b.leastDamping(0, 1));
        Refusal.unchanged("leastDamping(7, 0)", Bureaus::full, b -> b.leastDamping(7, 0));
    }

    // ---- 34: daysUntilMet

    private static void promise34DaysUntilMetRefusesAHallThatIsNotThere() {
        Refusal.noSuchHall("daysUntilMet(h, 0)", (b, hall) -> b.daysUntilMet(hall, 0));
        Refusal.noSuchHall("daysUntilMet(h, 5)", (b, hall) -> b.daysUntilMet(hall, 5));
    }

    private static void promise34DaysUntilMetRefusesAStandardThatIsNotThere() {
        Refusal.noSuchStandard("daysUntilMet(0, s)", (b, standard) -> b.daysUntilMet(0, standard));
    }

    /** One echo, undamped, of 10 times its hardness. */
    private static EchoBureau undamped(int limit) {
        EchoBureau b = oneLoud(limit);
        b.setDamping(0, 0);
        return b;
    }

    private static void promise34DaysUntilMetIs0IfItDoesNow() {
        Check.equal("limit 901", undamped(901).daysUntilMet(0, 0), 0);
    }

    private static void promise34DaysUntilMetIsTheFirstDayOnWhichDustIsEnough() {
        Check.equal("limit 900", undamped(900).daysUntilMet(0, 0), 5);
        Check.equal("limit 891", undamped(891).daysUntilMet(0, 0), 5);
        Check.equal("limit 890", undamped(890).daysUntilMet(0, 0), 10);
        EchoBureau b = undamped(900);
        b.passDays(4);
        Check.no("meets(0, 0)", b.meets(0, 0));
        Check.equal("daysUntilMet(0, 0), a day ahead", b.daysUntilMet(0, 0), 1);
        b.passDays(1);
        Check.yes("meets(0, 0)", b.meets(0, 0));
        Check.equal("daysUntilMet(0, 0), on the day", b.daysUntilMet(0, 0), 0);
    }

    private static void promise34DaysUntilMetIs100AtMost() {
        Check.equal("limit 711", undamped(711).daysUntilMet(0, 0), 95);
        Check.equal("limit 710", undamped(710).daysUntilMet(0, 0), 100);
        Check.equal("limit 701", undamped(701).daysUntilMet(0, 0), 100);
    }

    private static void promise34DaysUntilMetIsMinus1IfNotByThen() {
        Check.equal("limit 700", undamped(700).daysUntilMet(0, 0), -1);
        Check.equal("limit 1", undamped(1).daysUntilMet(0, 0), -1);
    }

    private static void promise34DaysUntilMetWithAllDust() {
        EchoBureau never = undamped(700);
        never.passDays(100);
        Check.equal("limit 700", never.daysUntilMet(0, 0), -1);
        EchoBureau now = undamped(701);
        now.passDays(100);
        Check.equal("limit 701", now.daysUntilMet(0, 0), 0);
        EchoBureau tomorrow = undamped(701);
        tomorrow.passDays(99);
        Check.equal("limit 701, dust 99", tomorrow.daysUntilMet(0, 0), 1);
    }

    private static void promise34DaysUntilMetOfAHallWithoutSurfacesIs0() {
        EchoBureau b = forSilentOnes();
        b.addHall(0);
        Check.equal("daysUntilMet(0, 0)", b.daysUntilMet(0, 0), 0);
    }

    /** 900 * 50 / 100 is 450, 890 * 50 / 100 is 445, and 900 * 49 / 100 is 441. */
    private static void promise34DaysUntilMetWithTheDampingThatIsNow() {
        EchoBureau b = oneLoud(450);
        b.setDamping(0, 50);
        Check.equal("daysUntilMet(0, 0), damping 50", b.daysUntilMet(0, 0), 5);
        b.setDamping(0, 51);
        Check.equal("daysUntilMet(0, 0), damping 51", b.daysUntilMet(0, 0), 0);
        b.setDamping(0, 0);
        Check.equal("daysUntilMet(0, 0), undamped", b.daysUntilMet(0, 0), -1);
    }

    private static void promise34DaysUntilMetChangesNothing() {
        Refusal.unchanged("daysUntilMet(0, 1)", Bureaus::some, b -> b.daysUntilMet(0, 1));
        Refusal.unchanged("daysUntilMet(0, 4)", Bureaus::full, b -> b.daysUntilMet(0, 4));
    }

    // ---- 35: easiestHall

    private static void promise35EasiestHallRefusesAStandardThatIsNotThere() {
        Refusal.noSuchStandard("easiestHall", (b, standard) -> b.easiestHall(standard));
    }

    private static void promise35EasiestHallWithoutHallsIsMinus1() {
        Check.equal("easiestHall(0)", forSilentOnes().easiestHall(0), -1);
    }

    private static void promise35EasiestHallIsMinus1IfNoneWould() {
        Check.equal("limit 90", oneLoud(90).easiestHall(0), -1);
    }

    private static void promise35EasiestHallIsTheOneThatWouldWithDamping90() {
        Check.equal("limit 91", oneLoud(91).easiestHall(0), 0);
    }

    private static void promise35EasiestHallOfSeveralIsTheSmallestNumber() {
        EchoBureau b = forSilentOnes();
        for (int hall = 0; hall < 8; hall++) {
            b.addHall(90 - hall);
        }
        Check.equal("easiestHall(0), of all", b.easiestHall(0), 0);
        b.addSurface(0, 60, 99);
        Check.equal("easiestHall(0), of the last seven", b.easiestHall(0), 1);
    }

    private static void promise35EasiestHallIsTheLastOfAFullBureau() {
        EchoBureau b = forSilentOnes();
        for (int hall = 0; hall < 8; hall++) {
            b.addHall(0);
            if (hall < 7) {
                b.addSurface(hall, 60, 99);
            }
        }
        Check.equal("easiestHall(0)", b.easiestHall(0), 7);
        b.addSurface(7, 60, 99);
        Check.equal("easiestHall(0), none", b.easiestHall(0), -1);
    }

    /** Below 804 are 820 with the damping 2 (803), 810 with 1 (801) and 800 with 0. */
    private static void promise35EasiestHallIsOfTheLeastDamping() {
        EchoBureau b = new EchoBureau();
        b.addStandard(0, 804, 0, 3000, 10);
        for (int hall = 0; hall < 3; hall++) {
            b.addHall(0);
            b.addSurface(hall, 60, 82 - hall);
            Check.equal("leastDamping(" + hall + ", 0)", b.leastDamping(hall, 0), 2 - hall);
            Check.equal("easiestHall(0)", b.easiestHall(0), hall);
        }
    }

    private static void promise35EasiestHallOfTwoWithoutDampingIsTheFirst() {
        EchoBureau b = new EchoBureau();
        b.addStandard(0, 804, 0, 3000, 10);
        b.addHall(0);
        b.addHall(0);
        b.addSurface(0, 60, 80);
        b.addSurface(1, 60, 10);
        Check.equal("easiestHall(0)", b.easiestHall(0), 0);
    }

    private static void promise35EasiestHallIsAskedWhateverTheDampingIsNow() {
        EchoBureau b = new EchoBureau();
        b.addStandard(0, 804, 0, 3000, 10);
        b.addHall(90);
        b.addHall(0);
        b.addSurface(0, 60, 81);
        b.addSurface(1, 60, 80);
        Check.equal("easiestHall(0)", b.easiestHall(0), 1);
        b.setDamping(0, 0);
        b.setDamping(1, 90);
        Check.equal("easiestHall(0), dampings exchanged", b.easiestHall(0), 1);
    }

    /** As hard as 80 both, they need the damping 1; under the dust 5 one of them needs none. */
    private static void promise35EasiestHallUnderTheDustThatIsNow() {
        EchoBureau b = new EchoBureau();
        b.addStandard(0, 800, 0, 3000, 10);
        for (int hall = 0; hall < 2; hall++) {
            b.addHall(0);
            b.addSurface(hall, 60, 80);
        }
        b.passDays(5);
        Check.equal("easiestHall(0), dust in both", b.easiestHall(0), 0);
        b.clean(0);
        Check.equal("easiestHall(0), dust in the hall 1", b.easiestHall(0), 1);
        b.clean(1);
        Check.equal("easiestHall(0), both clean", b.easiestHall(0), 0);
    }

    private static void promise35EasiestHallChangesNothing() {
        Refusal.unchanged("easiestHall(1)", Bureaus::some, b -> b.easiestHall(1));
        Refusal.unchanged("easiestHall(4)", Bureaus::full, b -> b.easiestHall(4));
    }

    // ---- 36: meanDamping

    private static void promise36MeanDampingWithoutHallsIs0() {
        Check.equal("meanDamping()", new EchoBureau().meanDamping(), 0.0);
        Check.equal("meanDamping(), standards alone", forSilentOnes().meanDamping(), 0.0);
    }

    private static EchoBureau damped(int... dampings) {
        EchoBureau b = new EchoBureau();
        for (int damping : dampings) {
            b.addHall(damping);
        }
        return b;
    }

    private static void promise36MeanDampingOfOneHallIsItsOwn() {
        Check.equal("meanDamping()", damped(0).meanDamping(), 0.0);
        Check.equal("meanDamping()", damped(90).meanDamping(), 90.0);
    }

    private static void promise36MeanDampingOfAFullBureau() {
        Check.equal("meanDamping(), all 90", damped(90, 90, 90, 90, 90, 90, 90, 90).meanDamping(), 90.0);
        Check.equal("meanDamping(), all 0", damped(0, 0, 0, 0, 0, 0, 0, 0).meanDamping(), 0.0);
        Check.equal("meanDamping(), the last 1", damped(0, 0, 0, 0, 0, 0, 0, 1).meanDamping(), 0.125);
    }

    private static void promise36MeanDampingIsNotCut() {
        Check.equal("meanDamping()", damped(0, 1).meanDamping(), 0.5);
        Check.equal("meanDamping()", damped(0, 1, 0).meanDamping(), 1.0 / 3.0);
        Check.equal("meanDamping()", damped(90, 90, 89, 90, 90, 90, 90).meanDamping(), 629.0 / 7.0);
    }

    // ---- 37: digest

    private static BigInteger mixed(long... numbers) {
        BigInteger d = BigInteger.valueOf(1871);
        for (long x : numbers) {
            d = d.multiply(BigInteger.valueOf(31)).add(BigInteger.valueOf(x));
        }
        return d;
    }

    private static void promise37DigestOfANewObject() {
        Check.equal("digest()", new EchoBureau().digest(), 1871L * 31 * 31 * 31 * 31 * 31);
    }

    private static void promise37DigestOfStandardsAlone() {
        EchoBureau b = forSilentOnes();
        b.passDays(2);
        Check.equal("digest()", b.digest(), mixed(0, 1, 2, 0, 0).longValueExact());
    }

    /** Without a certificate the standard counts -1, without an echo its moments do. */
    private static void promise37DigestOfAHallWithoutAnything() {
        EchoBureau b = damped(3);
        BigInteger due = mixed(1, 0, 0, 0, 0, 0, 3, 0, -1, 0, 0, -1, -1, -1);
        Check.equal("digest()", b.digest(), due.longValue());
    }

    private static void promise37DigestCountsACertificateOfStandard0() {
        EchoBureau b = forSilentOnes();
        b.addHall(3);
        b.inspect(0, 0);
        BigInteger due = mixed(1, 1, 0, 1, 1, 0, 3, 0, 0, 10, 0, -1, -1, -1, 1);
        Check.equal("digest()", b.digest(), due.longValue());
        b.passDays(10);
        due = mixed(1, 1, 10, 1, 0, 0, 3, 10, -1, 0, 0, -1, -1, -1, 1);
        Check.equal("digest(), run out", b.digest(), due.longValue());
    }

    private static void promise37DigestCountsTheHardnessThatIsNow() {
        EchoBureau b = Bureaus.ofOneSurface(0, 60, 3);
        b.passDays(5);
        BigInteger due = mixed(1, 0, 5, 0, 0, 1, 0, 5, -1, 0, 60, 2, 1, 360, 360, 360);
        Check.equal("digest()", b.digest(), due.longValue());
    }

    /** d is greater than a 64-bit number many times over; its wrapped number is below 0 at times. */
    private static void promise37DigestWrapsAround() {
        boolean isBelow0 = false;
        boolean isAbove0 = false;
        EchoBureau b = damped(0, 10, 20, 30, 40, 50, 60, 90);
        for (int day = 0; day < 20; day++) {
            BigInteger due = ofHallsWithoutSurfaces(day, 0, 10, 20, 30, 40, 50, 60, 90);
            Check.yes("d is greater than a long", due.bitLength() > 64);
            Check.equal("digest() on the day " + day, b.digest(), due.longValue());
            isBelow0 |= b.digest() < 0;
            isAbove0 |= b.digest() > 0;
            b.passDays(1);
        }
        Check.yes("a digest below 0", isBelow0);
        Check.yes("a digest above 0", isAbove0);
    }

    private static BigInteger ofHallsWithoutSurfaces(int day, int... dampings) {
        long[] numbers = new long[5 + 9 * dampings.length];
        numbers[0] = dampings.length;
        numbers[2] = day;
        int at = 5;
        for (int damping : dampings) {
            at = put(numbers, at, 0, damping, day, -1, 0);
        }
        for (int i = 0; i < dampings.length; i++) {
            at = put(numbers, at, 0, -1, -1, -1);
        }
        return mixed(numbers);
    }

    /** The standards 0, 2, 3, 0, 1 and 2 are those of the certificates. */
    private static void promise37DigestOfAFullBureau() {
        EchoBureau b = Bureaus.full();
        int[] certificates = {0, -1, 2, 3, -1, 0, 1, 2};
        int[] daysLeft = {7, 0, 9, 10, 0, 7, 8, 9};
        int[] echoes = {60, 46, 42, 37, 33, 29, 24, 20};
        int[] last = {504, 780, 1080, 1296, 1428, 1476, 1440, 1320};
        String[] met = {"10001", "10001", "10100", "11110", "11110", "11110", "11110", "11110"};
        long[] due = new long[5 + 8 * 17 + 8 * 9];
        int at = put(due, 0, 8, 5, 3, 8, 6);
        for (int hall = 0; hall < 8; hall++) {
            at = put(due, at, 6, 10 * hall, 3, certificates[hall], daysLeft[hall]);
            for (int surface = 0; surface < 6; surface++) {
                at = put(due, at, 1 + 7 * hall + surface, 40 + 5 * surface + hall);
            }
        }
        for (int hall = 0; hall < 8; hall++) {
            at = put(due, at, echoes[hall], 6 + 42 * hall, last[hall], b.loudestMoment(hall, 1000));
            for (int standard = 0; standard < 5; standard++) {
                at = put(due, at, met[hall].charAt(standard) - '0');
            }
        }
        Check.equal("numbers", at, due.length);
        Check.equal("digest()", b.digest(), mixed(due).longValue());
    }

    private static int put(long[] numbers, int at, long... more) {
        System.arraycopy(more, 0, numbers, at, more.length);
        return at + more.length;
    }

    private static void promise37DigestChangesNothing() {
        Refusal.unchanged("digest()", Bureaus::some, b -> b.digest());
        Refusal.unchanged("digest()", Bureaus::full, b -> b.digest());
    }
}
