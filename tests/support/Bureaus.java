/** Bureaus to begin a test with, the same ones as often as they are asked for. */
final class Bureaus {
    interface Making {
        EchoBureau make();
    }

    private Bureaus() {
    }

    static EchoBureau empty() {
        return new EchoBureau();
    }

    /**
     * Three halls and two standards, on the day 7. Hall 0 has two surfaces and a certificate of standard 0 with 13
     * days left, hall 1 no surfaces and one of standard 1 with 93 days left, hall 2 six surfaces and none.
     */
    static EchoBureau some() {
        EchoBureau b = new EchoBureau();
        b.addHall(10);
        b.addHall(0);
        b.addHall(90);
        b.addSurface(0, 10, 50);
        b.addSurface(0, 60, 99);
        for (int i = 0; i < 6; i++) {
            b.addSurface(2, 1 + 10 * i, 30 + i);
        }
        b.addStandard(0, 1, 99, 3000, 20);
        b.addStandard(100, 400, 0, 2000, 100);
        b.inspect(0, 0);
        b.inspect(1, 1);
        b.passDays(7);
        return b;
    }

    /**
     * Eight halls of six surfaces and five standards, on the day 3. Each hall was inspected; all but the halls 1 and 4
     * have a certificate. All hardnesses are as built still.
     */
    static EchoBureau full() {
        EchoBureau b = new EchoBureau();
        b.addStandard(0, 1, 99, 3000, 10);
        b.addStandard(100, 200, 9, 3000, 11);
        b.addStandard(0, 300, 6, 1500, 12);
        b.addStandard(50, 1, 40, 2000, 13);
        b.addStandard(0, 100, 20, 1000, 14);
        for (int hall = 0; hall < 8; hall++) {
            b.addHall(10 * hall);
            for (int surface = 0; surface < 6; surface++) {
                b.addSurface(hall, 1 + 7 * hall + surface, 40 + 5 * surface + hall);
            }
            b.inspect(hall, hall % 5);
        }
        b.passDays(3);
        return b;
    }

    /** A hall of this damping with one surface. */
    static EchoBureau ofOneSurface(int damping, int distance, int hardness) {
        EchoBureau b = new EchoBureau();
        b.addHall(damping);
        b.addSurface(0, distance, hardness);
        return b;
    }
}
