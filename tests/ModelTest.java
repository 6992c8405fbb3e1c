import java.util.function.Supplier;

/** All promises: long runs of calls, each answered by the class and by the model of the document. */
public final class ModelTest {
    private static final int RUNS = 600;
    /** An object is used for so many calls: those of a run, its digests among them, are no more. */
    private static final int CALLS = 512;
    private static final int KINDS = 36;
    private static final int[] ODD = {Integer.MIN_VALUE, Integer.MIN_VALUE + 1, -1000, -1, 0, 1, 5, 6, 8, 60, 61, 90,
        91, 99, 100, 101, 500, 501, 1000, 1001, 3000, 3001, Integer.MAX_VALUE - 1, Integer.MAX_VALUE};

    private long seed;
    private int made;
    private final EchoBureau bureau = new EchoBureau();
    private final Model model = new Model();

    private ModelTest(long seed) {
        this.seed = seed * 7919 + 17;
    }

    public static void main(String[] args) {
        for (int run = 0; run < RUNS; run++) {
            new ModelTest(run).run(run);
        }
        Check.end();
    }

    private int any(int bound) {
        seed = seed * 6364136223846793005L + 1442695040888963407L;
        return (int) ((seed >>> 33) % bound);
    }

    /** Mostly from least to greatest, at times just an end of this range, and seldom anything else. */
    private int number(int least, int greatest) {
        int how = any(60);
        if (how == 0) {
            return ODD[any(ODD.length)];
        }
        if (how == 1) {
            return least - 1;
        }
        if (how == 2) {
            return greatest + 1;
        }
        if (how < 8) {
            return least;
        }
        if (how < 14) {
            return greatest;
        }
        return least + any(greatest - least + 1);
    }

    private int hall() {
        return number(0, Math.max(0, model.halls.size() - 1));
    }

    private int standard() {
        return number(0, Math.max(0, model.standards.size() - 1));
    }

    private int surface(int hall) {
        boolean known = hall >= 0 && hall < model.halls.size();
        return number(0, known ? Math.max(0, model.halls.get(hall).surfaces.size() - 1) : 0);
    }

    private static String answer(Supplier<Object> call) {
        try {
            return String.valueOf(call.get());
        } catch (IndexOutOfBoundsException | IllegalArgumentException | IllegalStateException e) {
            return e.getClass().getName();
        }
    }

    private void both(int run, int call, String name, Supplier<Object> got, Supplier<Object> due) {
        made++;
        String is = answer(got);
        String should = answer(due);
        if (!is.equals(should)) {
            Check.report("run " + run + ", call " + call + ": " + name + " answered " + is + ", due is " + should);
        }
    }

    private void run(int run) {
        // A step makes up to three calls, and the last call of all is behind the loop.
        for (int call = 0; made < CALLS - 3; call++) {
            // Runs start with halls, surfaces and standards, so that the calls behind have something to ask about.
            int kind = call < 12 ? new int[] {0, 1, 6}[any(3)] : any(KINDS);
            step(run, call, kind);
            if (any(3) == 0) {
                both(run, call, "digest", bureau::digest, model::digest);
            }
        }
        Check.equal("day() of run " + run, bureau.day(), model.day);
    }

    private void step(int run, int call, int kind) {
        int h = hall();
        int s = standard();
        int f = surface(h);
        int loudness = number(1, 1000);
        int damping = number(0, 90);
        int distance = number(1, 60);
        int hardness = number(0, 99);
        int moment = any(2) == 0 ? number(0, 3000) : 6 * number(0, 500);
        int than = any(2) == 0 ? number(1, 1000) : number(1, 30);
        int days = any(2) == 0 ? number(1, 100) : number(1, 5);
        if (kind < 12) {
            change(run, call, kind, new int[] {h, s, f, damping, distance, hardness, days});
        } else if (kind < 24) {
            ask(run, call, kind, new int[] {h, s, f, loudness, moment, than});
        } else {
            askMore(run, call, kind, new int[] {h, s, damping});
        }
    }

    private void change(int run, int call, int kind, int[] a) {
        String name = "change " + kind + " " + java.util.Arrays.toString(a);
        switch (kind) {
            case 0 -> both(run, call, name, () -> bureau.addHall(a[3]), () -> model.addHall(a[3]));
            case 1 -> both(run, call, name, () -> bureau.addSurface(a[0], a[4], a[5]),
                () -> model.addSurface(a[0], a[4], a[5]));
            case 2 -> both(run, call, name, () -> bureau.moveSurface(a[0], a[2], a[4]),
                () -> model.moveSurface(a[0], a[2], a[4]));
            case 3 -> both(run, call, name, () -> bureau.setDamping(a[0], a[3]), () -> model.setDamping(a[0], a[3]));
            case 4, 5 -> both(run, call, name, () -> bureau.clean(a[0]), () -> model.clean(a[0]));
            case 6 -> addStandard(run, call);
            case 7, 8, 9 -> both(run, call, name, () -> bureau.inspect(a[0], a[1]), () -> model.inspect(a[0], a[1]));
            case 10 -> both(run, call, name, () -> bureau.revoke(a[0]), () -> model.revoke(a[0]));
            default -> both(run, call, name, () -> bureau.passDays(a[6]), () -> model.passDays(a[6]));
        }
    }

    private void addStandard(int run, int call) {
        int earliest = any(2) == 0 ? number(0, 500) : number(0, 40);
        int limit = number(1, 1000);
        int most = number(0, 99);
        int latest = number(0, 3000);
        int days = number(1, 100);
        both(run, call, "addStandard", () -> bureau.addStandard(earliest, limit, most, latest, days),
            () -> model.addStandard(earliest, limit, most, latest, days));
    }

    private void ask(int run, int call, int kind, int[] a) {
        String name = "ask " + kind + " " + java.util.Arrays.toString(a);
        switch (kind) {
            case 12 -> both(run, call, name, () -> bureau.surfacesOf(a[0]), () -> model.surfacesOf(a[0]));
            case 13 -> both(run, call, name, () -> bureau.distanceOf(a[0], a[2]), () -> model.distanceOf(a[0], a[2]));
            case 14 -> both(run, call, name, () -> bureau.hardnessOf(a[0], a[2]), () -> model.hardnessOf(a[0], a[2]));
            case 15 -> both(run, call, name, () -> bureau.dampingOf(a[0]), () -> model.dampingOf(a[0]));
            case 16 -> both(run, call, name, () -> bureau.dustOf(a[0]), () -> model.dustOf(a[0]));
            case 17 -> both(run, call, name, () -> bureau.echoes(a[0], a[3]), () -> model.echoes(a[0], a[3]));
            case 18 -> both(run, call, name, () -> bureau.loudEchoes(a[0], a[3], a[5]),
                () -> model.loudEchoes(a[0], a[3], a[5]));
            case 19 -> both(run, call, name, () -> bureau.firstEcho(a[0], a[3]), () -> model.firstEcho(a[0], a[3]));
            case 20 -> both(run, call, name, () -> bureau.lastEcho(a[0], a[3]), () -> model.lastEcho(a[0], a[3]));
            case 21 -> both(run, call, name, () -> bureau.loudnessAt(a[0], a[3], a[4]),
                () -> model.loudnessAt(a[0], a[3], a[4]));
            case 22 -> both(run, call, name, () -> bureau.loudestMoment(a[0], a[3]),
                () -> model.loudestMoment(a[0], a[3]));
            default -> both(run, call, name, () -> bureau.meets(a[0], a[1]), () -> model.meets(a[0], a[1]));
        }
    }

    private void askMore(int run, int call, int kind, int[] a) {
        String name = "askMore " + kind + " " + java.util.Arrays.toString(a);
        switch (kind) {
            case 24 -> both(run, call, name, () -> bureau.hallsMeeting(a[1]), () -> model.hallsMeeting(a[1]));
            case 25 -> both(run, call, name, () -> bureau.isCertified(a[0]), () -> model.isCertified(a[0]));
            case 26 -> both(run, call, name, () -> bureau.certifiedBy(a[0]), () -> model.certifiedBy(a[0]));
            case 27 -> both(run, call, name, () -> bureau.daysLeft(a[0]), () -> model.daysLeft(a[0]));
            case 28 -> both(run, call, name, bureau::halls, model.halls::size);
            case 29 -> both(run, call, name, bureau::standards, model.standards::size);
            case 30 -> both(run, call, name, bureau::inspections, () -> model.inspections);
            case 31 -> both(run, call, name, bureau::certifiedHalls, model::certifiedHalls);
            case 32 -> both(run, call, name, () -> bureau.meetsWithDamping(a[0], a[1], a[2]),
                () -> model.meetsWithDamping(a[0], a[1], a[2]));
            case 33 -> both(run, call, name, () -> bureau.leastDamping(a[0], a[1]),
                () -> model.leastDamping(a[0], a[1]));
            case 34 -> both(run, call, name, () -> bureau.daysUntilMet(a[0], a[1]),
                () -> model.daysUntilMet(a[0], a[1]));
            default -> {
                both(run, call, name, () -> bureau.easiestHall(a[1]), () -> model.easiestHall(a[1]));
                both(run, call, name, bureau::meanDamping, model::meanDamping);
            }
        }
    }
}
