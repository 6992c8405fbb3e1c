/** The sentences of promises 1 to 6 and 11 to 15 that name an edge, and of the terms of halls, a test for each. */
public final class EdgesOfHallsTest {
    public static void main(String[] args) throws IllegalAccessException {
        Edges.run(EdgesOfHallsTest.class, 1, 2, 3, 4, 5, 6, 11, 12, 13, 14, 15);
    }

    private static EchoBureau withHalls(int count) {
        EchoBureau b = new EchoBureau();
        for (int i = 0; i < count; i++) {
            b.addHall(i);
        }
        return b;
    }

    /** The halls 0 and 1 have a surface and a certificate each, with 100 days left. */
    private static EchoBureau bothCertified() {
        EchoBureau b = withHalls(2);
        b.addSurface(0, 10, 50);
        b.addSurface(1, 10, 50);
        b.addStandard(0, 1, 99, 3000, 100);
        b.inspect(0, 0);
        b.inspect(1, 0);
        return b;
    }

    private static void justHall1Certified(EchoBureau b) {
        Check.no("isCertified(0)", b.isCertified(0));
        Check.equal("daysLeft(0)", b.daysLeft(0), 0);
        Check.thrown("certifiedBy(0)", Check.STATE, () -> b.certifiedBy(0));
        Check.yes("isCertified(1)", b.isCertified(1));
        Check.equal("daysLeft(1)", b.daysLeft(1), 100);
        Check.equal("certifiedHalls()", b.certifiedHalls(), 1);
    }

    // ---- 1: a new object

    private static void promise1NewObjectHasNoHalls() {
        EchoBureau b = new EchoBureau();
        Check.equal("halls()", b.halls(), 0);
        Check.thrown("surfacesOf(0)", Check.INDEX, () -> b.surfacesOf(0));
        Check.equal("the first hall's number", b.addHall(0), 0);
    }

    private static void promise1NewObjectHasNoStandards() {
        EchoBureau b = new EchoBureau();
        Check.equal("standards()", b.standards(), 0);
        Check.thrown("hallsMeeting(0)", Check.INDEX, () -> b.hallsMeeting(0));
        Check.equal("the first standard's number", b.addStandard(0, 1, 0, 0, 1), 0);
    }

    private static void promise1NewObjectIsOnTheDay0() {
        EchoBureau b = new EchoBureau();
        Check.equal("day()", b.day(), 0);
        b.passDays(1);
        Check.equal("day(), behind one day", b.day(), 1);
    }

    private static void promise1NewObjectHasNothingOfAnotherOne() {
        EchoBureau other = Bureaus.full();
        EchoBureau b = new EchoBureau();
        Check.equal("halls()", b.halls(), 0);
        Check.equal("standards()", b.standards(), 0);
        Check.equal("day()", b.day(), 0);
        Check.equal("inspections()", b.inspections(), 0);
        Check.equal("certifiedHalls()", b.certifiedHalls(), 0);
        Check.equal("halls() of the other one", other.halls(), 8);
    }

    private static void promise1NewObjectIsUsedFor512Calls() {
        EchoBureau b = new EchoBureau();
        for (int call = 1; call <= 509; call++) {
            Check.equal("passDays(100)", b.passDays(100), 0);
        }
        Check.equal("addHall(90), call 510", b.addHall(90), 0);
        Check.equal("passDays(1), call 511", b.passDays(1), 0);
        Check.equal("day(), call 512", b.day(), 50901);
    }

    // ---- 2: addHall

    private static void promise2AddHallTakesDamping0() {
        EchoBureau b = new EchoBureau();
        Check.equal("addHall(0)", b.addHall(0), 0);
        Check.equal("dampingOf(0)", b.dampingOf(0), 0);
    }

    private static void promise2AddHallTakesDamping90() {
        EchoBureau b = new EchoBureau();
        Check.equal("addHall(90)", b.addHall(90), 0);
        Check.equal("dampingOf(0)", b.dampingOf(0), 90);
    }

    private static void promise2AddHallRefusesADampingOutside() {
        Refusal.outside("addHall", 0, 90, Bureaus::empty, (b, damping) -> b.addHall(damping));
        Refusal.outside("addHall", 0, 90, Bureaus::some, (b, damping) -> b.addHall(damping));
    }

    private static void promise2AddHallNumbersFrom0To7() {
        EchoBureau b = new EchoBureau();
        for (int i = 0; i < 8; i++) {
            Check.equal("addHall no. " + i, b.addHall(i), i);
        }
        Check.equal("halls()", b.halls(), 8);
        for (int i = 0; i < 8; i++) {
            Check.equal("dampingOf(" + i + ")", b.dampingOf(i), i);
        }
    }

    private static void promise2AddHallRefusesTheNinth() {
        Refusal.due("addHall(0), without surfaces", Check.STATE, () -> withHalls(8), b -> b.addHall(0));
        Refusal.due("addHall(0)", Check.STATE, Bureaus::full, b -> b.addHall(0));
        Refusal.due("addHall(90)", Check.STATE, Bureaus::full, b -> b.addHall(90));
    }

    private static void promise2AddHallOfAFullBureauNamesTheDampingFirst() {
        Refusal.outside("addHall", 0, 90, Bureaus::full, (b, damping) -> b.addHall(damping));
    }

    private static void promise2AddHallMakesItWithoutSurfaces() {
        EchoBureau b = Bureaus.some();
        Check.equal("addHall(50)", b.addHall(50), 3);
        Check.equal("surfacesOf(3)", b.surfacesOf(3), 0);
        Check.thrown("distanceOf(3, 0)", Check.INDEX, () -> b.distanceOf(3, 0));
    }

    private static void promise2AddHallMakesItWithoutDustOnALaterDay() {
        EchoBureau b = new EchoBureau();
        b.passDays(100);
        b.addHall(50);
        Check.equal("dustOf(0)", b.dustOf(0), 0);
        b.passDays(1);
        Check.equal("dustOf(0), behind a day", b.dustOf(0), 1);
    }

    private static void promise2AddHallMakesItWithoutACertificate() {
        EchoBureau b = Bureaus.some();
        b.addHall(50);
        Check.no("isCertified(3)", b.isCertified(3));
        Check.equal("daysLeft(3)", b.daysLeft(3), 0);
        Check.equal("certifiedHalls()", b.certifiedHalls(), 2);
    }

    // ---- 3: addSurface

    private static void promise3AddSurfaceRefusesAHallThatIsNotThere() {
        Refusal.noSuchHall("addSurface", (b, hall) -> b.addSurface(hall, 1, 0));
    }

    private static void promise3AddSurfaceNamesTheHallFirst() {
        Refusal.noSuchHall("addSurface, distance wrong", (b, hall) -> b.addSurface(hall, 61, 0));
        Refusal.noSuchHall("addSurface, hardness wrong", (b, hall) -> b.addSurface(hall, 1, 100));
        Refusal.noSuchHall("addSurface, both wrong", (b, hall) -> b.addSurface(hall, 0, -1));
    }

    private static void promise3AddSurfaceTakesDistance1() {
        EchoBureau b = withHalls(1);
        Check.equal("addSurface(0, 1, 50)", b.addSurface(0, 1, 50), 0);
        Check.equal("distanceOf(0, 0)", b.distanceOf(0, 0), 1);
    }

    private static void promise3AddSurfaceTakesDistance60() {
        EchoBureau b = withHalls(1);
        Check.equal("addSurface(0, 60, 50)", b.addSurface(0, 60, 50), 0);
        Check.equal("distanceOf(0, 0)", b.distanceOf(0, 0), 60);
    }

    private static void promise3AddSurfaceRefusesADistanceOutside() {
        Refusal.outside("addSurface(0, d, 50)", 1, 60, Bureaus::some, (b, distance) -> b.addSurface(0, distance, 50));
        Refusal.outside("addSurface(1, d, 0)", 1, 60, Bureaus::some, (b, distance) -> b.addSurface(1, distance, 0));
    }

    private static void promise3AddSurfaceTakesHardness0() {
        EchoBureau b = withHalls(1);
        Check.equal("addSurface(0, 30, 0)", b.addSurface(0, 30, 0), 0);
        Check.equal("hardnessOf(0, 0)", b.hardnessOf(0, 0), 0);
    }

    private static void promise3AddSurfaceTakesHardness99() {
        EchoBureau b = withHalls(1);
        Check.equal("addSurface(0, 30, 99)", b.addSurface(0, 30, 99), 0);
        Check.equal("hardnessOf(0, 0)", b.hardnessOf(0, 0), 99);
    }

    private static void promise3AddSurfaceRefusesAHardnessOutside() {
        Refusal.outside("addSurface(0, 1, h)", 0, 99, Bureaus::some, (b, hardness) -> b.addSurface(0, 1, hardness));
        Refusal.outside("addSurface(1, 60, h)", 0, 99, Bureaus::some, (b, hardness) -> b.addSurface(1, 60, hardness));
    }

    private static void promise3AddSurfaceNumbersFrom0To5InEachHall() {
        EchoBureau b = withHalls(2);
        for (int i = 0; i < 6; i++) {
            Check.equal("addSurface to 0, no. " + i, b.addSurface(0, 1 + i, i), i);
            Check.equal("addSurface to 1, no. " + i, b.addSurface(1, 60 - i, 99 - i), i);
        }
        for (int i = 0; i < 6; i++) {
            Check.equal("distanceOf(0, " + i + ")", b.distanceOf(0, i), 1 + i);
            Check.equal("hardnessOf(1, " + i + ")", b.hardnessOf(1, i), 99 - i);
        }
    }

    private static void promise3AddSurfaceRefusesTheSeventh() {
        Refusal.due("addSurface(2, 1, 1)", Check.STATE, Bureaus::some, b -> b.addSurface(2, 1, 1));
        for (int hall = 0; hall < 8; hall += 7) {
            int h = hall;
            Refusal.due("addSurface(" + h + ", 60, 99)", Check.STATE, Bureaus::full, b -> b.addSurface(h, 60, 99));
        }
    }

    private static void promise3AddSurfaceToAFullHallNamesTheArgumentsFirst() {
        Refusal.outside("addSurface(2, d, 1)", 1, 60, Bureaus::some, (b, distance) -> b.addSurface(2, distance, 1));
        Refusal.outside("addSurface(2, 1, h)", 0, 99, Bureaus::some, (b, hardness) -> b.addSurface(2, 1, hardness));
        Refusal.argument("addSurface(7, 61, 100)", Bureaus::full, b -> b.addSurface(7, 61, 100));
    }

    private static void promise3AddSurfaceToAHallBesideAFullOneIsTaken() {
        EchoBureau b = Bureaus.some();
        Check.equal("addSurface(1, 1, 1)", b.addSurface(1, 1, 1), 0);
        Check.equal("addSurface(0, 1, 1)", b.addSurface(0, 1, 1), 2);
        Check.equal("surfacesOf(2)", b.surfacesOf(2), 6);
    }

    private static void promise3AddSurfaceTakesTheHallsCertificate() {
        EchoBureau b = bothCertified();
        b.addSurface(0, 10, 0);
        justHall1Certified(b);
    }

    private static void promise3AddSurfaceToADustyHallIsSofterAtOnce() {
        EchoBureau b = withHalls(1);
        b.passDays(10);
        b.addSurface(0, 10, 50);
        Check.equal("hardnessOf(0, 0)", b.hardnessOf(0, 0), 48);
        b.clean(0);
        Check.equal("hardnessOf(0, 0), clean", b.hardnessOf(0, 0), 50);
    }

    // ---- 4: moveSurface

    private static void promise4MoveSurfaceRefusesAHallThatIsNotThere() {
        Refusal.noSuchHall("moveSurface", (b, hall) -> b.moveSurface(hall, 0, 1));
    }

    private static void promise4MoveSurfaceRefusesASurfaceThatIsNotThere() {
        Refusal.noSuchSurface("moveSurface", (b, hall, surface) -> b.moveSurface(hall, surface, 1));
    }

    private static void promise4MoveSurfaceNamesTheHallAndTheSurfaceFirst() {
        Refusal.noSuchHall("moveSurface(h, 0, 0)", (b, hall) -> b.moveSurface(hall, 0, 0));
        Refusal.noSuchHall("moveSurface(h, -1, 61)", (b, hall) -> b.moveSurface(hall, -1, 61));
        Refusal.noSuchSurface("moveSurface(h, s, 0)", (b, hall, surface) -> b.moveSurface(hall, surface, 0));
        Refusal.noSuchSurface("moveSurface(h, s, 61)", (b, hall, surface) -> b.moveSurface(hall, surface, 61));
    }

    private static void promise4MoveSurfaceTakesDistance1() {
        EchoBureau b = Bureaus.ofOneSurface(0, 30, 50);
        Check.equal("moveSurface(0, 0, 1)", b.moveSurface(0, 0, 1), 30);
        Check.equal("distanceOf(0, 0)", b.distanceOf(0, 0), 1);
    }

    private static void promise4MoveSurfaceTakesDistance60() {
        EchoBureau b = Bureaus.ofOneSurface(0, 30, 50);
        Check.equal("moveSurface(0, 0, 60)", b.moveSurface(0, 0, 60), 30);
        Check.equal("distanceOf(0, 0)", b.distanceOf(0, 0), 60);
    }

    private static void promise4MoveSurfaceReturnsTheDistanceBefore() {
        EchoBureau b = Bureaus.ofOneSurface(0, 1, 50);
        Check.equal("moveSurface(0, 0, 60)", b.moveSurface(0, 0, 60), 1);
        Check.equal("moveSurface(0, 0, 60) again", b.moveSurface(0, 0, 60), 60);
        Check.equal("moveSurface(0, 0, 1)", b.moveSurface(0, 0, 1), 60);
    }

    private static void promise4MoveSurfaceRefusesADistanceOutside() {
        Refusal.outside("moveSurface(0, 0, d)", 1, 60, Bureaus::some, (b, distance) -> b.moveSurface(0, 0, distance));
        Refusal.outside("moveSurface(0, 1, d)", 1, 60, Bureaus::some, (b, distance) -> b.moveSurface(0, 1, distance));
        Refusal.outside("moveSurface(7, 5, d)", 1, 60, Bureaus::full, (b, distance) -> b.moveSurface(7, 5, distance));
    }

    private static void promise4MoveSurfaceMovesTheLastOfAFullHallAndNoOther() {
        EchoBureau b = Bureaus.full();
        Check.equal("moveSurface(7, 5, 1)", b.moveSurface(7, 5, 1), 55);
        Check.equal("distanceOf(7, 5)", b.distanceOf(7, 5), 1);
        Check.equal("distanceOf(7, 4)", b.distanceOf(7, 4), 54);
        Check.equal("distanceOf(6, 5)", b.distanceOf(6, 5), 48);
    }

    private static void promise4MoveSurfaceTakesTheHallsCertificate() {
        EchoBureau b = bothCertified();
        b.moveSurface(0, 0, 11);
        justHall1Certified(b);
    }

    private static void promise4MoveSurfaceToWhereItIsTakesTheCertificateToo() {
        EchoBureau b = bothCertified();
        b.moveSurface(0, 0, 10);
        justHall1Certified(b);
    }

    // ---- 5: setDamping

    private static void promise5SetDampingRefusesAHallThatIsNotThere() {
        Refusal.noSuchHall("setDamping", (b, hall) -> b.setDamping(hall, 0));
    }

    private static void promise5SetDampingNamesTheHallFirst() {
        Refusal.noSuchHall("setDamping(h, -1)", (b, hall) -> b.setDamping(hall, -1));
        Refusal.noSuchHall("setDamping(h, 91)", (b, hall) -> b.setDamping(hall, 91));
    }

    private static void promise5SetDampingTakes0() {
        EchoBureau b = Bureaus.full();
        Check.equal("setDamping(7, 0)", b.setDamping(7, 0), 70);
        Check.equal("dampingOf(7)", b.dampingOf(7), 0);
        Check.equal("dampingOf(6)", b.dampingOf(6), 60);
    }

    private static void promise5SetDampingTakes90() {
        EchoBureau b = Bureaus.full();
        Check.equal("setDamping(0, 90)", b.setDamping(0, 90), 0);
        Check.equal("dampingOf(0)", b.dampingOf(0), 90);
        Check.equal("dampingOf(1)", b.dampingOf(1), 10);
    }

    private static void promise5SetDampingReturnsTheOneBefore() {
        EchoBureau b = withHalls(1);
        Check.equal("setDamping(0, 90)", b.setDamping(0, 90), 0);
        Check.equal("setDamping(0, 90) again", b.setDamping(0, 90), 90);
        Check.equal("setDamping(0, 0)", b.setDamping(0, 0), 90);
    }

    private static void promise5SetDampingRefusesADampingOutside() {
        Refusal.outside("setDamping(0, d)", 0, 90, Bureaus::some, (b, damping) -> b.setDamping(0, damping));
        Refusal.outside("setDamping(1, d)", 0, 90, Bureaus::some, (b, damping) -> b.setDamping(1, damping));
        Refusal.outside("setDamping(7, d)", 0, 90, Bureaus::full, (b, damping) -> b.setDamping(7, damping));
    }

    private static void promise5SetDampingTakesTheHallsCertificate() {
        EchoBureau b = bothCertified();
        b.setDamping(0, 90);
        justHall1Certified(b);
    }

    private static void promise5SetDampingToWhatItIsTakesTheCertificateToo() {
        EchoBureau b = bothCertified();
        b.setDamping(0, 0);
        justHall1Certified(b);
    }

    // ---- 6: clean

    private static void promise6CleanRefusesAHallThatIsNotThere() {
        Refusal.noSuchHall("clean", (b, hall) -> b.clean(hall));
    }

    private static void promise6CleanOfAHallWithoutDustReturns0() {
        EchoBureau b = withHalls(1);
        Check.equal("clean(0)", b.clean(0), 0);
        Check.equal("dustOf(0)", b.dustOf(0), 0);
    }

    private static void promise6CleanOfAHallWithAllDustReturns100() {
        EchoBureau b = withHalls(2);
        b.passDays(100);
        b.passDays(1);
        Check.equal("clean(1)", b.clean(1), 100);
        Check.equal("dustOf(1)", b.dustOf(1), 0);
        Check.equal("dustOf(0)", b.dustOf(0), 100);
        Check.equal("clean(1) again", b.clean(1), 0);
    }

    private static void promise6CleanLeavesTheCertificate() {
        EchoBureau b = bothCertified();
        b.passDays(99);
        b.clean(0);
        Check.yes("isCertified(0)", b.isCertified(0));
        Check.equal("certifiedBy(0)", b.certifiedBy(0), 0);
        Check.equal("daysLeft(0)", b.daysLeft(0), 1);
        Check.equal("certifiedHalls()", b.certifiedHalls(), 2);
    }

    private static void promise6CleanMakesSurfacesAsHardAsBuilt() {
        EchoBureau b = Bureaus.ofOneSurface(0, 10, 20);
        b.passDays(100);
        Check.equal("hardnessOf(0, 0), dust 100", b.hardnessOf(0, 0), 0);
        b.clean(0);
        Check.equal("hardnessOf(0, 0), clean", b.hardnessOf(0, 0), 20);
    }

    // ---- 11 to 15: what halls are

    private static void promise11SurfacesOfRefusesAHallThatIsNotThere() {
        Refusal.noSuchHall("surfacesOf", (b, hall) -> b.surfacesOf(hall));
    }

    private static void promise11SurfacesOfAHallWithoutAnyIs0() {
        Check.equal("surfacesOf(1)", Bureaus.some().surfacesOf(1), 0);
    }

    private static void promise11SurfacesOfAFullHallIs6() {
        Check.equal("surfacesOf(2)", Bureaus.some().surfacesOf(2), 6);
        Check.equal("surfacesOf(0)", Bureaus.full().surfacesOf(0), 6);
        Check.equal("surfacesOf(7)", Bureaus.full().surfacesOf(7), 6);
    }

    private static void promise12DistanceOfRefusesAHallThatIsNotThere() {
        Refusal.noSuchHall("distanceOf", (b, hall) -> b.distanceOf(hall, 0));
    }

    private static void promise12DistanceOfRefusesASurfaceThatIsNotThere() {
        Refusal.noSuchSurface("distanceOf", (b, hall, surface) -> b.distanceOf(hall, surface));
    }

    private static void promise12DistanceOfTheFirstAndTheLastSurface() {
        EchoBureau b = Bureaus.some();
        Check.equal("distanceOf(2, 0)", b.distanceOf(2, 0), 1);
        Check.equal("distanceOf(2, 5)", b.distanceOf(2, 5), 51);
        Check.equal("distanceOf(0, 1)", b.distanceOf(0, 1), 60);
    }

    private static void promise13HardnessOfRefusesAHallThatIsNotThere() {
        Refusal.noSuchHall("hardnessOf", (b, hall) -> b.hardnessOf(hall, 0));
    }

    private static void promise13HardnessOfRefusesASurfaceThatIsNotThere() {
        Refusal.noSuchSurface("hardnessOf", (b, hall, surface) -> b.hardnessOf(hall, surface));
    }

    private static void promise13HardnessOfTheFirstAndTheLastSurface() {
        EchoBureau b = Bureaus.some();
        Check.equal("hardnessOf(2, 0), dust 7", b.hardnessOf(2, 0), 29);
        Check.equal("hardnessOf(2, 5), dust 7", b.hardnessOf(2, 5), 34);
    }

    private static void promise13HardnessOfIsLessByAFifthOfTheDustCutTowards0() {
        EchoBureau b = Bureaus.ofOneSurface(0, 10, 99);
        int[] dust = {0, 4, 5, 9, 10, 99, 100};
        int[] due = {99, 99, 98, 98, 97, 80, 79};
        for (int i = 0; i < dust.length; i++) {
            if (i > 0) {
                b.passDays(dust[i] - dust[i - 1]);
            }
            Check.equal("hardnessOf(0, 0), dust " + dust[i], b.hardnessOf(0, 0), due[i]);
        }
    }

    private static void promise13HardnessOfIsAtLeast0() {
        EchoBureau b = withHalls(1);
        b.addSurface(0, 10, 0);
        b.addSurface(0, 10, 1);
        b.addSurface(0, 10, 2);
        b.passDays(5);
        Check.equal("hardnessOf(0, 0), dust 5", b.hardnessOf(0, 0), 0);
        Check.equal("hardnessOf(0, 1), dust 5", b.hardnessOf(0, 1), 0);
        Check.equal("hardnessOf(0, 2), dust 5", b.hardnessOf(0, 2), 1);
        b.passDays(95);
        Check.equal("hardnessOf(0, 0), dust 100", b.hardnessOf(0, 0), 0);
        Check.equal("hardnessOf(0, 2), dust 100", b.hardnessOf(0, 2), 0);
    }

    private static void promise13HardnessOfIsNoLessBehindAllDust() {
        EchoBureau b = Bureaus.ofOneSurface(0, 10, 21);
        b.passDays(100);
        b.passDays(100);
        Check.equal("hardnessOf(0, 0)", b.hardnessOf(0, 0), 1);
    }

    private static void promise14DampingOfRefusesAHallThatIsNotThere() {
        Refusal.noSuchHall("dampingOf", (b, hall) -> b.dampingOf(hall));
    }

    private static void promise14DampingOfTheLeastAndTheGreatest() {
        EchoBureau b = Bureaus.some();
        Check.equal("dampingOf(1)", b.dampingOf(1), 0);
        Check.equal("dampingOf(2)", b.dampingOf(2), 90);
    }

    private static void promise15DustOfRefusesAHallThatIsNotThere() {
        Refusal.noSuchHall("dustOf", (b, hall) -> b.dustOf(hall));
    }

    private static void promise15DustOfAHallIs0AtFirst() {
        Check.equal("dustOf(0)", withHalls(1).dustOf(0), 0);
    }

    private static void promise15DustOfAHallIs1MoreADay() {
        EchoBureau b = withHalls(8);
        b.passDays(1);
        Check.equal("dustOf(0)", b.dustOf(0), 1);
        Check.equal("dustOf(7)", b.dustOf(7), 1);
    }

    private static void promise15DustOfAHallIsAtMost100() {
        EchoBureau b = withHalls(1);
        b.passDays(99);
        Check.equal("dustOf(0), 99 days", b.dustOf(0), 99);
        b.passDays(1);
        Check.equal("dustOf(0), 100 days", b.dustOf(0), 100);
        b.passDays(1);
        Check.equal("dustOf(0), 101 days", b.dustOf(0), 100);
        b.passDays(100);
        Check.equal("dustOf(0), 201 days", b.dustOf(0), 100);
    }
}
