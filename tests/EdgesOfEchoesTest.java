/** The sentences of promises 16 to 21 that name an edge, and of the term of echoes, a test for each. */
public final class EdgesOfEchoesTest {
    public static void main(String[] args) throws IllegalAccessException {
        Edges.run(EdgesOfEchoesTest.class, 16, 17, 18, 19, 20, 21);
    }

    /** Halls in which no click has an echo: 0 without surfaces, 1 of hardness 0, 2 of dust. */
    private static EchoBureau silent() {
        EchoBureau b = new EchoBureau();
        b.addHall(0);
        b.addHall(0);
        b.addHall(0);
        b.addSurface(1, 1, 0);
        b.addSurface(2, 1, 20);
        b.passDays(100);
        return b;
    }

    // ---- 16: echoes

    private static void promise16EchoesRefusesAHallThatIsNotThere() {
        Refusal.noSuchHall("echoes(h, 1000)", (b, hall) -> b.echoes(hall, 1000));
    }

    private static void promise16EchoesNamesTheHallFirst() {
        Refusal.noSuchHall("echoes(h, 0)", (b, hall) -> b.echoes(hall, 0));
        Refusal.noSuchHall("echoes(h, 1001)", (b, hall) -> b.echoes(hall, 1001));
    }

    private static void promise16EchoesRefusesALoudnessOutside() {
        Refusal.outside("echoes(0, l)", 1, 1000, Bureaus::some, (b, loudness) -> b.echoes(0, loudness));
        Refusal.outside("echoes(1, l)", 1, 1000, Bureaus::some, (b, loudness) -> b.echoes(1, loudness));
        Refusal.outside("echoes(7, l)", 1, 1000, Bureaus::full, (b, loudness) -> b.echoes(7, loudness));
    }

    private static void promise16EchoesOfTheSoftestClick() {
        EchoBureau b = Bureaus.ofOneSurface(0, 1, 99);
        Check.equal("echoes(0, 1)", b.echoes(0, 1), 0);
        Check.equal("echoes(0, 2)", b.echoes(0, 2), 1);
    }

    private static void promise16EchoesOfTheLoudestClick() {
        EchoBureau b = Bureaus.ofOneSurface(0, 1, 99);
        Check.equal("echoes(0, 1000)", b.echoes(0, 1000), 291);
    }

    private static void promise16EchoesOfASilentHall() {
        EchoBureau b = silent();
        for (int hall = 0; hall < 3; hall++) {
            Check.equal("echoes(" + hall + ", 1000)", b.echoes(hall, 1000), 0);
        }
    }

    /** 1000 * 1 / 100 is 10, the next one would be 0; 1000 / 10 * 1 / 100 is 1. */
    private static void promise16EchoesEndAheadOfTheFirstOfLoudness0() {
        EchoBureau b = Bureaus.ofOneSurface(0, 1, 1);
        Check.equal("echoes(0, 1000)", b.echoes(0, 1000), 1);
        Check.equal("echoes(0, 100)", b.echoes(0, 100), 1);
        Check.equal("echoes(0, 99)", b.echoes(0, 99), 0);
        b.setDamping(0, 90);
        Check.equal("echoes(0, 1000), damped", b.echoes(0, 1000), 1);
        Check.equal("echoes(0, 999), damped", b.echoes(0, 999), 0);
    }

    private static void promise16EchoesEndAheadOfTheFirstLaterThan3000() {
        EchoBureau b = Bureaus.ofOneSurface(0, 50, 99);
        Check.equal("echoes(0, 1000), the tenth at 3000", b.echoes(0, 1000), 10);
        b.moveSurface(0, 0, 51);
        Check.equal("echoes(0, 1000), the tenth at 3060", b.echoes(0, 1000), 9);
        b.moveSurface(0, 0, 2);
        Check.equal("echoes(0, 1000), number 250 at 3000", b.echoes(0, 1000), 250);
    }

    private static void promise16EchoesOfAFullHallAreAllCounted() {
        EchoBureau b = new EchoBureau();
        b.addHall(0);
        for (int i = 0; i < 6; i++) {
            b.addSurface(0, 1, 99);
            Check.equal("echoes(0, 1000)", b.echoes(0, 1000), 291 * (i + 1));
        }
    }

    // ---- 17: loudEchoes

    private static void promise17LoudEchoesRefusesAHallThatIsNotThere() {
        Refusal.noSuchHall("loudEchoes(h, 1000, 1)", (b, hall) -> b.loudEchoes(hall, 1000, 1));
    }

    private static void promise17LoudEchoesNamesTheHallFirst() {
        Refusal.noSuchHall("loudEchoes(h, 0, 1)", (b, hall) -> b.loudEchoes(hall, 0, 1));
        Refusal.noSuchHall("loudEchoes(h, 1, 1001)", (b, hall) -> b.loudEchoes(hall, 1, 1001));
        Refusal.noSuchHall("loudEchoes(h, 0, 0)", (b, hall) -> b.loudEchoes(hall, 0, 0));
    }

    private static void promise17LoudEchoesRefusesALoudnessOutside() {
        Refusal.outside("loudEchoes(0, l, 1)", 1, 1000, Bureaus::some, (b, loudness) -> b.loudEchoes(0, loudness, 1));
        Refusal.outside("loudEchoes(1, l, 1)", 1, 1000, Bureaus::some, (b, loudness) -> b.loudEchoes(1, loudness, 1));
    }

    private static void promise17LoudEchoesRefusesAThanOutside() {
        Refusal.outside("loudEchoes(0, 1, t)", 1, 1000, Bureaus::some, (b, than) -> b.loudEchoes(0, 1, than));
        Refusal.outside("loudEchoes(1, 1, t)", 1, 1000, Bureaus::some, (b, than) -> b.loudEchoes(1, 1, than));
        Refusal.outside("loudEchoes(7, 1000, t)", 1, 1000, Bureaus::full, (b, than) -> b.loudEchoes(7, 1000, than));
    }

    private static void promise17LoudEchoesAsLoudAs1AreAll() {
        EchoBureau b = Bureaus.ofOneSurface(0, 1, 99);
        Check.equal("loudEchoes(0, 1000, 1)", b.loudEchoes(0, 1000, 1), 291);
        Check.equal("loudEchoes(0, 2, 1)", b.loudEchoes(0, 2, 1), 1);
        Check.equal("loudEchoes(0, 1, 1)", b.loudEchoes(0, 1, 1), 0);
    }

    private static void promise17LoudEchoesAsLoudAs1000AreNone() {
        Check.equal("loudEchoes(0, 1000, 1000)", Bureaus.ofOneSurface(0, 1, 99).loudEchoes(0, 1000, 1000), 0);
    }

    /** 990, 980, 970, .. */
    private static void promise17LoudEchoesAreAsLoudOrLouder() {
        EchoBureau b = Bureaus.ofOneSurface(0, 1, 99);
        Check.equal("loudEchoes(0, 1000, 991)", b.loudEchoes(0, 1000, 991), 0);
        Check.equal("loudEchoes(0, 1000, 990)", b.loudEchoes(0, 1000, 990), 1);
        Check.equal("loudEchoes(0, 1000, 981)", b.loudEchoes(0, 1000, 981), 1);
        Check.equal("loudEchoes(0, 1000, 980)", b.loudEchoes(0, 1000, 980), 2);
    }

    private static void promise17LoudEchoesAtOneMomentAreNotAdded() {
        EchoBureau b = Bureaus.ofOneSurface(0, 60, 40);
        b.addSurface(0, 60, 40);
        Check.equal("loudnessAt(0, 1000, 360)", b.loudnessAt(0, 1000, 360), 800);
        Check.equal("loudEchoes(0, 1000, 401)", b.loudEchoes(0, 1000, 401), 0);
        Check.equal("loudEchoes(0, 1000, 400)", b.loudEchoes(0, 1000, 400), 2);
    }

    private static void promise17LoudEchoesOfASilentHall() {
        EchoBureau b = silent();
        for (int hall = 0; hall < 3; hall++) {
            Check.equal("loudEchoes(" + hall + ", 1000, 1)", b.loudEchoes(hall, 1000, 1), 0);
        }
    }

    // ---- 18: firstEcho

    private static void promise18FirstEchoRefusesAHallThatIsNotThere() {
        Refusal.noSuchHall("firstEcho(h, 1000)", (b, hall) -> b.firstEcho(hall, 1000));
    }

    private static void promise18FirstEchoNamesTheHallFirst() {
        Refusal.noSuchHall("firstEcho(h, 0)", (b, hall) -> b.firstEcho(hall, 0));
        Refusal.noSuchHall("firstEcho(h, 1001)", (b, hall) -> b.firstEcho(hall, 1001));
    }

    private static void promise18FirstEchoRefusesALoudnessOutside() {
        Refusal.outside("firstEcho(0, l)", 1, 1000, Bureaus::some, (b, loudness) -> b.firstEcho(0, loudness));
        Refusal.outside("firstEcho(1, l)", 1, 1000, Bureaus::some, (b, loudness) -> b.firstEcho(1, loudness));
    }

    private static void promise18FirstEchoWithoutOneIsMinus1() {
        EchoBureau b = silent();
        for (int hall = 0; hall < 3; hall++) {
            Check.equal("firstEcho(" + hall + ", 1000)", b.firstEcho(hall, 1000), -1);
        }
    }

    private static void promise18FirstEchoOfASoftClickIsMinus1() {
        EchoBureau b = Bureaus.ofOneSurface(0, 1, 50);
        Check.equal("firstEcho(0, 1)", b.firstEcho(0, 1), -1);
        Check.equal("firstEcho(0, 2)", b.firstEcho(0, 2), 6);
    }

    private static void promise18FirstEchoComesFrom6To360() {
        Check.equal("firstEcho of distance 1", Bureaus.ofOneSurface(0, 1, 50).firstEcho(0, 1000), 6);
        Check.equal("firstEcho of distance 60", Bureaus.ofOneSurface(0, 60, 50).firstEcho(0, 1000), 360);
    }

    private static void promise18FirstEchoIsOfTheNearestSurfaceThatThrowsBack() {
        EchoBureau b = Bureaus.ofOneSurface(0, 60, 50);
        b.addSurface(0, 1, 0);
        b.addSurface(0, 30, 50);
        b.addSurface(0, 59, 50);
        Check.equal("firstEcho(0, 1000)", b.firstEcho(0, 1000), 180);
    }

    // ---- 19: lastEcho

    private static void promise19LastEchoRefusesAHallThatIsNotThere() {
        Refusal.noSuchHall("lastEcho(h, 1000)", (b, hall) -> b.lastEcho(hall, 1000));
    }

    private static void promise19LastEchoNamesTheHallFirst() {
        Refusal.noSuchHall("lastEcho(h, 0)", (b, hall) -> b.lastEcho(hall, 0));
        Refusal.noSuchHall("lastEcho(h, 1001)", (b, hall) -> b.lastEcho(hall, 1001));
    }

    private static void promise19LastEchoRefusesALoudnessOutside() {
        Refusal.outside("lastEcho(0, l)", 1, 1000, Bureaus::some, (b, loudness) -> b.lastEcho(0, loudness));
        Refusal.outside("lastEcho(1, l)", 1, 1000, Bureaus::some, (b, loudness) -> b.lastEcho(1, loudness));
    }

    private static void promise19LastEchoWithoutOneIsMinus1() {
        EchoBureau b = silent();
        for (int hall = 0; hall < 3; hall++) {
            Check.equal("lastEcho(" + hall + ", 1000)", b.lastEcho(hall, 1000), -1);
        }
    }

    private static void promise19LastEchoOfASoftClickIsMinus1() {
        EchoBureau b = Bureaus.ofOneSurface(0, 1, 50);
        Check.equal("lastEcho(0, 1)", b.lastEcho(0, 1), -1);
        Check.equal("lastEcho(0, 2)", b.lastEcho(0, 2), 6);
    }

    private static void promise19LastEchoComesAt3000AndNotLater() {
        EchoBureau b = Bureaus.ofOneSurface(0, 50, 99);
        Check.equal("lastEcho, each 300", b.lastEcho(0, 1000), 3000);
        b.moveSurface(0, 0, 2);
        Check.equal("lastEcho, each 12", b.lastEcho(0, 1000), 3000);
        b.moveSurface(0, 0, 60);
        Check.equal("lastEcho, each 360", b.lastEcho(0, 1000), 2880);
        b.moveSurface(0, 0, 38);
        Check.equal("lastEcho, each 228", b.lastEcho(0, 1000), 2964);
        b.moveSurface(0, 0, 56);
        Check.equal("lastEcho, each 336", b.lastEcho(0, 1000), 2688);
    }

    private static void promise19LastEchoIsOfTheRowThatEndsLast() {
        EchoBureau b = Bureaus.ofOneSurface(0, 60, 1);
        b.addSurface(0, 1, 99);
        b.addSurface(0, 60, 1);
        Check.equal("lastEcho(0, 1000)", b.lastEcho(0, 1000), 1746);
    }

    // ---- 20: loudnessAt

    private static void promise20LoudnessAtRefusesAHallThatIsNotThere() {
        Refusal.noSuchHall("loudnessAt(h, 1000, 0)", (b, hall) -> b.loudnessAt(hall, 1000, 0));
    }

    private static void promise20LoudnessAtNamesTheHallFirst() {
        Refusal.noSuchHall("loudnessAt(h, 0, 0)", (b, hall) -> b.loudnessAt(hall, 0, 0));
        Refusal.noSuchHall("loudnessAt(h, 1, 3001)", (b, hall) -> b.loudnessAt(hall, 1, 3001));
        Refusal.noSuchHall("loudnessAt(h, 1001, -1)", (b, hall) -> b.loudnessAt(hall, 1001, -1));
    }

    private static void promise20LoudnessAtRefusesALoudnessOutside() {
        Refusal.outside("loudnessAt(0, l, 0)", 1, 1000, Bureaus::some, (b, loudness) -> b.loudnessAt(0, loudness, 0));
        Refusal.outside("loudnessAt(1, l, 0)", 1, 1000, Bureaus::some, (b, loudness) -> b.loudnessAt(1, loudness, 0));
    }

    private static void promise20LoudnessAtRefusesAMomentOutside() {
        Refusal.outside("loudnessAt(0, 1, m)", 0, 3000, Bureaus::some, (b, moment) -> b.loudnessAt(0, 1, moment));
        Refusal.outside("loudnessAt(1, 1, m)", 0, 3000, Bureaus::some, (b, moment) -> b.loudnessAt(1, 1, moment));
        Refusal.outside("loudnessAt(7, 1000, m)", -5, 3005, Bureaus::full,
            (b, moment) -> b.loudnessAt(7, 1000, moment));
    }

    private static void promise20LoudnessAtTheMoment0Is0() {
        Check.equal("loudnessAt(0, 1000, 0)", Bureaus.ofOneSurface(0, 1, 99).loudnessAt(0, 1000, 0), 0);
    }

    /** 990, 980, .. 910, 900. */
    private static void promise20LoudnessAtTheMoment3000() {
        EchoBureau b = Bureaus.ofOneSurface(0, 50, 99);
        Check.equal("loudnessAt(0, 1000, 3000)", b.loudnessAt(0, 1000, 3000), 900);
        Check.equal("loudnessAt(0, 1000, 2999)", b.loudnessAt(0, 1000, 2999), 0);
        b.moveSurface(0, 0, 51);
        Check.equal("loudnessAt(0, 1000, 3000), no echo", b.loudnessAt(0, 1000, 3000), 0);
    }

    private static void promise20LoudnessAtJustThisMoment() {
        EchoBureau b = Bureaus.ofOneSurface(0, 1, 99);
        Check.equal("loudnessAt(0, 1000, 5)", b.loudnessAt(0, 1000, 5), 0);
        Check.equal("loudnessAt(0, 1000, 6)", b.loudnessAt(0, 1000, 6), 990);
        Check.equal("loudnessAt(0, 1000, 7)", b.loudnessAt(0, 1000, 7), 0);
        Check.equal("loudnessAt(0, 1000, 11)", b.loudnessAt(0, 1000, 11), 0);
        Check.equal("loudnessAt(0, 1000, 12)", b.loudnessAt(0, 1000, 12), 980);
    }

    private static void promise20LoudnessAtTheLastEchoAndTheOneThatWouldBeNext() {
        EchoBureau b = Bureaus.ofOneSurface(0, 1, 99);
        Check.equal("loudnessAt(0, 1000, 1746)", b.loudnessAt(0, 1000, 1746), 1);
        Check.equal("loudnessAt(0, 1000, 1752)", b.loudnessAt(0, 1000, 1752), 0);
    }

    private static void promise20LoudnessAtIsAddedOfAllSurfaces() {
        EchoBureau b = new EchoBureau();
        b.addHall(0);
        for (int i = 0; i < 6; i++) {
            b.addSurface(0, 50, 99);
        }
        Check.equal("loudnessAt(0, 1000, 300)", b.loudnessAt(0, 1000, 300), 5940);
        Check.equal("loudnessAt(0, 1000, 3000)", b.loudnessAt(0, 1000, 3000), 5400);
    }

    /** 2 * 99 / 100 is 1; 199 * 99 / 100 is 197, 197 * 99 / 100 is 195. */
    private static void promise20LoudnessAtIsCutTowards0() {
        EchoBureau b = Bureaus.ofOneSurface(1, 1, 99);
        Check.equal("loudnessAt(0, 2, 6)", b.loudnessAt(0, 2, 6), 0);
        Check.equal("loudnessAt(0, 199, 6)", b.loudnessAt(0, 199, 6), 195);
        b.setDamping(0, 0);
        Check.equal("loudnessAt(0, 2, 6), undamped", b.loudnessAt(0, 2, 6), 1);
        Check.equal("loudnessAt(0, 199, 6), undamped", b.loudnessAt(0, 199, 6), 197);
    }

    private static void promise20LoudnessAtOfTheLeastAndTheGreatestDamping() {
        Check.equal("loudnessAt, damping 0", Bureaus.ofOneSurface(0, 1, 99).loudnessAt(0, 1000, 6), 990);
        Check.equal("loudnessAt, damping 90", Bureaus.ofOneSurface(90, 1, 99).loudnessAt(0, 1000, 6), 99);
    }

    private static void promise20LoudnessAtOfASilentHall() {
        EchoBureau b = silent();
        for (int hall = 0; hall < 3; hall++) {
            Check.equal("loudnessAt(" + hall + ", 1000, 6)", b.loudnessAt(hall, 1000, 6), 0);
            Check.equal("loudnessAt(" + hall + ", 1000, 0)", b.loudnessAt(hall, 1000, 0), 0);
            Check.equal("loudnessAt(" + hall + ", 1000, 3000)", b.loudnessAt(hall, 1000, 3000), 0);
        }
    }

    // ---- 21: loudestMoment

    private static void promise21LoudestMomentRefusesAHallThatIsNotThere() {
        Refusal.noSuchHall("loudestMoment(h, 1000)", (b, hall) -> b.loudestMoment(hall, 1000));
    }

    private static void promise21LoudestMomentNamesTheHallFirst() {
        Refusal.noSuchHall("loudestMoment(h, 0)", (b, hall) -> b.loudestMoment(hall, 0));
        Refusal.noSuchHall("loudestMoment(h, 1001)", (b, hall) -> b.loudestMoment(hall, 1001));
    }

    private static void promise21LoudestMomentRefusesALoudnessOutside() {
        Refusal.outside("loudestMoment(0, l)", 1, 1000, Bureaus::some, (b, loudness) -> b.loudestMoment(0, loudness));
        Refusal.outside("loudestMoment(1, l)", 1, 1000, Bureaus::some, (b, loudness) -> b.loudestMoment(1, loudness));
    }

    private static void promise21LoudestMomentWithoutAnEchoIsMinus1() {
        EchoBureau b = silent();
        for (int hall = 0; hall < 3; hall++) {
            Check.equal("loudestMoment(" + hall + ", 1000)", b.loudestMoment(hall, 1000), -1);
        }
        Check.equal("loudestMoment of a soft click", Bureaus.ofOneSurface(0, 1, 99).loudestMoment(0, 1), -1);
    }

    private static void promise21LoudestMomentOfAnEchoOfLoudness1() {
        Check.equal("loudestMoment(0, 2)", Bureaus.ofOneSurface(0, 60, 50).loudestMoment(0, 2), 360);
    }

    private static void promise21LoudestMomentComesFrom6On() {
        Check.equal("loudestMoment of distance 1", Bureaus.ofOneSurface(0, 1, 50).loudestMoment(0, 1000), 6);
        Check.equal("loudestMoment of distance 60", Bureaus.ofOneSurface(0, 60, 50).loudestMoment(0, 1000), 360);
    }

    private static void promise21LoudestMomentOfSeveralIsTheFirst() {
        EchoBureau b = Bureaus.ofOneSurface(0, 60, 50);
        b.addSurface(0, 50, 50);
        b.addSurface(0, 59, 50);
        Check.equal("loudestMoment(0, 1000)", b.loudestMoment(0, 1000), 300);
    }

    /** 500 at 60 and 250 at 120; with 250 more at 120 they are as loud, with 260 more 120 is louder. */
    private static void promise21LoudestMomentIsOfTheEchoesAdded() {
        EchoBureau b = Bureaus.ofOneSurface(0, 10, 50);
        b.addSurface(0, 20, 25);
        Check.equal("loudnessAt(0, 1000, 120)", b.loudnessAt(0, 1000, 120), 500);
        Check.equal("loudestMoment(0, 1000), as loud", b.loudestMoment(0, 1000), 60);
        EchoBureau louder = Bureaus.ofOneSurface(0, 10, 50);
        louder.addSurface(0, 20, 26);
        Check.equal("loudestMoment(0, 1000), louder", louder.loudestMoment(0, 1000), 120);
    }

    /** Rows of each 96 and each 186 meet at 2976 alone, which is the latest of all where just two can meet. */
    private static void promise21LoudestMomentMayComeLate() {
        EchoBureau b = Bureaus.ofOneSurface(0, 16, 99);
        b.addSurface(0, 31, 99);
        Check.equal("loudestMoment(0, 1000)", b.loudestMoment(0, 1000), 2976);
    }
}
