import java.lang.reflect.InvocationTargetException;
import java.lang.reflect.Method;
import java.lang.reflect.Modifier;
import java.util.TreeMap;
import java.util.TreeSet;

/**
 * Runs tests of edges: the static methods of a class that are named promise, the promise's number, its call, and
 * what stands, as in promise2AddHallTakesDamping0. Each one is about one sentence of the document.
 */
final class Edges {
    private static final String[] CALLS = {"NewObject", "AddHall", "AddSurface", "MoveSurface", "SetDamping", "Clean",
        "AddStandard", "Inspect", "Revoke", "PassDays", "SurfacesOf", "DistanceOf", "HardnessOf", "DampingOf",
        "DustOf", "Echoes", "LoudEchoes", "FirstEcho", "LastEcho", "LoudnessAt", "LoudestMoment", "Meets",
        "HallsMeeting", "IsCertified", "CertifiedBy", "DaysLeft", "Halls", "Standards", "Day", "Inspections",
        "CertifiedHalls", "MeetsWithDamping", "LeastDamping", "DaysUntilMet", "EasiestHall", "MeanDamping", "Digest"};

    private Edges() {
    }

    /** Runs the tests of these promises, and reports a promise without one. */
    static void run(Class<?> tests, int... promises) throws IllegalAccessException {
        TreeSet<Integer> due = new TreeSet<>();
        for (int promise : promises) {
            due.add(promise);
        }
        TreeMap<String, Method> found = new TreeMap<>();
        for (Method method : tests.getDeclaredMethods()) {
            if (Modifier.isStatic(method.getModifiers()) && method.getName().startsWith("promise")) {
                found.put(method.getName(), method);
            }
        }
        TreeSet<Integer> tested = new TreeSet<>();
        for (Method test : found.values()) {
            tested.add(promiseOf(test.getName()));
            runOne(test);
        }
        Check.about(tests.getName());
        if (!tested.equals(due)) {
            Check.report("the promises tested are " + tested + ", due are " + due);
        }
        Check.end();
    }

    private static void runOne(Method test) throws IllegalAccessException {
        Check.about(test.getName());
        test.setAccessible(true);
        try {
            test.invoke(null);
        } catch (InvocationTargetException e) {
            Check.report("ended with " + e.getCause());
        }
    }

    private static int promiseOf(String name) {
        String rest = name.substring("promise".length());
        for (int promise = CALLS.length; promise >= 1; promise--) {
            if (rest.startsWith(promise + CALLS[promise - 1])) {
                return promise;
            }
        }
        Check.report(name + " is not named after a promise");
        return 0;
    }
}
