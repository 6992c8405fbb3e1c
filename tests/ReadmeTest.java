import java.io.IOException;
import java.lang.reflect.Method;
import java.lang.reflect.Modifier;
import java.net.URL;
import java.net.URLClassLoader;
import java.nio.file.Files;
import java.nio.file.Path;
import java.util.ArrayList;
import java.util.List;
import java.util.TreeMap;
import java.util.regex.Matcher;
import java.util.regex.Pattern;
import javax.tools.ToolProvider;

/** README.md says of the class what holds; the test is started in the project's directory. */
public final class ReadmeTest {
    private static final Pattern ANSWERED = Pattern.compile("(?:int (\\w+) = )?([^;]*); +// ([^:]*):.*");
    private static final Pattern CALL_ROW = Pattern.compile("\\| `(\\w+)\\(([^)]*)\\)` \\| .* \\| (.*) \\|");
    private static final Pattern RANGE_ROW = Pattern.compile("\\| `(\\w+)` \\| (\\d+) to (\\d+) \\|");

    public static void main(String[] args) throws Exception {
        List<String> lines = Files.readAllLines(Path.of("README.md"));
        exampleAnswersAsItSays(lines);
        callsAreThoseOfTheFace(lines);
        rangesAreThoseOfTheClass(lines);
        testsAreAllNamed(lines);
        Check.end();
    }

    // ---- the example

    /** Each line is made a statement of Example, which notes the answer; what is due stands behind the line. */
    private static void exampleAnswersAsItSays(List<String> lines) throws Exception {
        StringBuilder text = new StringBuilder("public final class Example {\n");
        text.append("public static void run(java.util.List<String> got) {\n");
        List<String> asked = new ArrayList<>();
        List<String> due = new ArrayList<>();
        for (String line : block(lines, "```java", "```")) {
            Matcher parts = ANSWERED.matcher(line);
            if (parts.matches()) {
                asked.add(line);
                due.add(parts.group(3));
                text.append(noting(parts.group(1), parts.group(2)));
            } else {
                Check.no("an answer that is not understood: " + line, line.contains("//"));
                text.append(line).append('\n');
            }
        }
        Check.yes("the example has answers", due.size() >= 15);
        List<String> got = run(text.append("}\n}\n").toString());
        Check.equal("answers of the example", got.size(), due.size());
        for (int i = 0; i < got.size() && i < due.size(); i++) {
            Check.yes(asked.get(i) + " answered " + got.get(i), got.get(i).equals(due.get(i)));
        }
    }

    private static String noting(String name, String call) {
        if (name != null) {
            return "int " + name + " = " + call + ";\ngot.add(String.valueOf(" + name + "));\n";
        }
        return "try { got.add(String.valueOf(" + call + ")); }\n"
            + "catch (RuntimeException e) { got.add(\"throws \" + e.getClass().getSimpleName()); }\n";
    }

    private static List<String> run(String text) throws Exception {
        List<String> got = new ArrayList<>();
        Path place = Files.createTempDirectory("readme");
        Path file = Files.writeString(place.resolve("Example.java"), text);
        String path = System.getProperty("java.class.path");
        int ended = ToolProvider.getSystemJavaCompiler()
            .run(null, null, null, "-cp", path, "-d", place.toString(), file.toString());
        Check.equal("the example's compiler", ended, 0);
        if (ended == 0) {
            try (URLClassLoader loader = new URLClassLoader(new URL[] {place.toUri().toURL()})) {
                loader.loadClass("Example").getMethod("run", List.class).invoke(null, got);
            }
        }
        Files.deleteIfExists(place.resolve("Example.class"));
        Files.delete(file);
        Files.delete(place);
        return got;
    }

    // ---- the tables

    private static void callsAreThoseOfTheFace(List<String> lines) {
        TreeMap<String, String> rows = new TreeMap<>();
        for (String line : lines) {
            Matcher row = CALL_ROW.matcher(line);
            if (row.matches()) {
                int parameters = row.group(2).isEmpty() ? 0 : row.group(2).split(", ").length;
                String before = rows.put(row.group(1), parameters + " " + row.group(3).replace("`", ""));
                Check.yes("one row of " + row.group(1), before == null);
            }
        }
        TreeMap<String, String> due = new TreeMap<>();
        for (Method method : EchoBureau.class.getDeclaredMethods()) {
            if (Modifier.isPublic(method.getModifiers())) {
                due.put(method.getName(), method.getParameterCount() + " " + thrown(method));
            }
        }
        for (String name : due.keySet()) {
            Check.yes(name + " has the row " + rows.get(name) + ", due is " + due.get(name),
                due.get(name).equals(rows.get(name)));
        }
        Check.equal("rows of calls", rows.size(), due.size());
    }

    private static String thrown(Method method) {
        List<String> names = new ArrayList<>();
        for (Class<?> type : method.getExceptionTypes()) {
            names.add(type.getSimpleName());
        }
        return names.isEmpty() ? "nothing" : String.join(", ", names);
    }

    private static void rangesAreThoseOfTheClass(List<String> lines) {
        int rows = 0;
        for (String line : lines) {
            Matcher row = RANGE_ROW.matcher(line);
            if (row.matches()) {
                rows++;
                int least = Integer.parseInt(row.group(2));
                int greatest = Integer.parseInt(row.group(3));
                Check.yes(line + " of " + (least - 1), isRefused(row.group(1), least - 1));
                Check.no(line + " of " + least, isRefused(row.group(1), least));
                Check.no(line + " of " + greatest, isRefused(row.group(1), greatest));
                Check.yes(line + " of " + (greatest + 1), isRefused(row.group(1), greatest + 1));
            }
        }
        Check.equal("rows of ranges", rows, 11);
    }

    private static boolean isRefused(String argument, int number) {
        EchoBureau b = Bureaus.ofOneSurface(0, 10, 50);
        try {
            make(b, argument, number);
            return false;
        } catch (IllegalArgumentException e) {
            return true;
        }
    }

    private static void make(EchoBureau b, String argument, int number) {
        switch (argument) {
            case "damping" -> b.addHall(number);
            case "distance" -> b.addSurface(0, number, 50);
            case "hardness" -> b.addSurface(0, 10, number);
            case "earliest" -> b.addStandard(number, 1, 0, 0, 1);
            case "limit" -> b.addStandard(0, number, 0, 0, 1);
            case "most" -> b.addStandard(0, 1, number, 0, 1);
            case "latest" -> b.addStandard(0, 1, 0, number, 1);
            case "days" -> b.passDays(number);
            case "loudness" -> b.echoes(0, number);
            case "than" -> b.loudEchoes(0, 1, number);
            case "moment" -> b.loudnessAt(0, 1, number);
            default -> Check.report("no argument is named " + argument);
        }
    }

    private static void testsAreAllNamed(List<String> lines) throws IOException {
        try (var files = Files.list(Path.of("tests"))) {
            for (Path file : files.filter(path -> path.toString().endsWith("Test.java")).toList()) {
                String name = file.getFileName().toString().replace(".java", "");
                Check.yes(name + " has a row", lines.stream().anyMatch(line -> line.startsWith("| `" + name + "` |")));
            }
        }
    }

    private static List<String> block(List<String> lines, String first, String last) {
        int from = lines.indexOf(first) + 1;
        if (from == 0) {
            Check.report("README.md has no " + first);
            return List.of();
        }
        List<String> rest = lines.subList(from, lines.size());
        int to = rest.indexOf(last);
        return to < 0 ? rest : rest.subList(0, to);
    }
}
