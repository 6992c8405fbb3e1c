import java.io.IOException;
import java.lang.reflect.Field;
import java.lang.reflect.Method;
import java.lang.reflect.Modifier;
import java.nio.file.Files;
import java.nio.file.Path;
import java.util.ArrayList;
import java.util.Arrays;
import java.util.List;
import java.util.Set;
import java.util.TreeMap;
import java.util.TreeSet;
import java.util.regex.Matcher;
import java.util.regex.Pattern;

/**
 * The rules of LANGUAGE.md that the text of the class shows, in the order of their numbers, at times more narrowly
 * than they are written: what the class does not need may not stand there. It is started in the project's directory.
 */
public final class LanguageTest {
    private static final Path FILE = Path.of("src", "main", "java", "EchoBureau.java");
    private static final Set<String> EXCEPTIONS = Set.of("IllegalStateException", "IllegalArgumentException",
        "IndexOutOfBoundsException");
    private static final Set<String> LIBRARY = Set.of("Math.max", "Math.min", "Arrays.fill");
    private static final Set<String> NO_CALLS = Set.of("if", "for", "while", "switch", "return");
    private static final Set<String> SIMPLE = Set.of("void", "int", "long", "boolean", "double");
    /** Words of Java that the rules forbid, or that the class does not need. */
    private static final Set<String> NEVER = Set.of("try", "catch", "finally", "synchronized", "assert", "transient",
        "volatile", "native", "strictfp", "protected", "package", "instanceof", "float", "var", "while", "do",
        "super", "enum", "record", "abstract", "yield", "goto");

    private LanguageTest() {
    }

    public static void main(String[] args) throws IOException {
        Source source = Source.read(FILE);
        Check.yes("methods were found: " + source.methods.size(), source.methods.size() >= 37);
        plainSigns();
        faceAlone();
        classesInside(source);
        typesAndLibrary(source);
        staticFields();
        exceptions(source);
        loops(source);
        calls(source);
        sizes(source);
        Check.end();
    }

    /** Rules 3 and 4: texts and all else are of the signs 1 to 127. */
    private static void plainSigns() throws IOException {
        List<String> lines = Files.readAllLines(FILE);
        for (int i = 0; i < lines.size(); i++) {
            String line = lines.get(i);
            Check.yes("line " + (i + 1) + " is of plain signs", line.chars().allMatch(c -> c >= 32 && c < 127));
        }
    }

    private static List<Class<?>> allClasses() {
        List<Class<?>> all = new ArrayList<>(List.of(EchoBureau.class));
        for (int i = 0; i < all.size(); i++) {
            all.addAll(Arrays.asList(all.get(i).getDeclaredClasses()));
        }
        return all;
    }

    /** Rule 1, for the classes inside; FaceTest looks at the face itself. */
    private static void faceAlone() {
        TreeSet<String> face = new TreeSet<>();
        for (Method method : EchoBureau.class.getDeclaredMethods()) {
            if (Modifier.isPublic(method.getModifiers())) {
                face.add(method.getName());
            }
        }
        for (Class<?> type : allClasses()) {
            for (Method method : type.getDeclaredMethods()) {
                Check.no(method + " has a name of the face", type != EchoBureau.class && face.contains(method.getName()));
            }
        }
    }

    /** Rules 2 and 11: static classes inside, and at most twelve in all. */
    private static void classesInside(Source source) {
        List<Class<?>> all = allClasses();
        Check.yes("classes: " + all.size(), all.size() <= 12);
        for (Class<?> type : all.subList(1, all.size())) {
            Check.yes(type + " is static", Modifier.isStatic(type.getModifiers()));
        }
        Check.equal("classes named in the text", count(source.code, "\\b(class|interface) [A-Z]"), all.size());
        Check.no("a lambda", source.code.contains("->"));
        Check.no("a method reference", source.code.contains("::"));
    }

    /** Rules 3, 4 and 13: own classes, arrays of one dimension, and of the library what the class needs. */
    private static void typesAndLibrary(Source source) {
        Set<String> known = new TreeSet<>(Set.of("EchoBureau", "Math", "Arrays"));
        known.addAll(EXCEPTIONS);
        for (Class<?> type : allClasses()) {
            known.add(type.getSimpleName());
            for (Field field : type.getDeclaredFields()) {
                Class<?> held = field.getType().isArray() ? field.getType().getComponentType() : field.getType();
                boolean isOwn = held.getName().startsWith("EchoBureau");
                Check.yes(field + " is of a type to use", isOwn || SIMPLE.contains(held.getName()));
            }
        }
        String imports = source.code.substring(0, source.code.indexOf("public final class"));
        Check.yes("the imports are " + imports.strip(), imports.strip().equals("import java.util.Arrays;"));
        String code = source.code.substring(imports.length());
        for (String word : words(code, "(?<!\\w)[A-Z]\\w*[a-z]\\w*")) {
            Check.yes(word + " is a class to use", known.contains(word));
        }
        for (String word : words(code, "\\b(Math|Arrays)\\b(\\.\\w+)?")) {
            Check.yes(word + " is a function to use", LIBRARY.contains(word));
        }
        for (String word : words(code, "\\b[a-z]\\w*\\b")) {
            Check.no(word + " stands in the class", NEVER.contains(word));
        }
    }

    /** Rule 5. */
    private static void staticFields() {
        for (Class<?> type : allClasses()) {
            for (Field field : type.getDeclaredFields()) {
                int modifiers = field.getModifiers();
                boolean isConstant = Modifier.isFinal(modifiers) && SIMPLE.contains(field.getType().getName());
                Check.yes(field + " is a constant", !Modifier.isStatic(modifiers) || isConstant);
            }
        }
    }

    /** Rules 5 and 6: exceptions are new, of a written text, and none is thrown in a constructor. */
    private static void exceptions(Source source) {
        Check.no("a static block", source.code.matches("(?s).*\\bstatic\\s*\\{.*"));
        String due = "\\bthrow new (" + String.join("|", EXCEPTIONS) + ")\\(\"\"\\);";
        Check.equal("throws of a new exception", count(source.code, due), count(source.code, "\\bthrow\\b"));
        int constructors = 0;
        for (Source.Method method : source.methods) {
            if (method.isConstructor()) {
                constructors++;
                Check.equal("throws in the constructor of " + method.name, count(method.body, "\\bthrow\\b"), 0);
                Check.equal("calls in the constructor of " + method.name, callsIn(method).size(), 0);
            }
        }
        Check.yes("constructors were found: " + constructors, constructors >= 1);
    }

    /** Rule 9: a loop counts up to a bound, or goes over an array. */
    private static void loops(Source source) {
        String counted = "\\bfor \\(int (\\w+) = \\d+; \\1 <=? [\\w.]+; \\1\\+\\+\\)";
        String overArray = "\\bfor \\(\\w+ \\w+ : [\\w.]+\\)";
        int due = count(source.code, "\\bfor\\b");
        Check.yes("loops were found: " + due, due >= 1);
        Check.equal("loops with a bound", count(source.code, counted) + count(source.code, overArray), due);
        for (Source.Method method : source.methods) {
            for (String counter : words(method.body, "(?<=\\bfor \\(int )\\w+")) {
                int changes = count(method.body, "(?<![\\w.])" + counter + "\\s*([-+*/%]?=(?!=)|\\+\\+|--)");
                int heads = count(method.body, "\\bfor \\(int " + counter + " =");
                Check.equal("changes of " + counter + " in " + method.name, changes, 2 * heads);
            }
        }
    }

    private static TreeSet<String> callsIn(Source.Method method) {
        TreeSet<String> called = words(method.body, "(?<!new )\\b[a-z]\\w*(?=\\()");
        called.removeAll(NO_CALLS);
        return called;
    }

    /**
     * Rules 4, 8 and 11: only methods of the class and known functions are called, none comes back to itself, and
     * calls go at most eight deep. Methods of one name are taken for one.
     */
    private static void calls(Source source) {
        TreeMap<String, TreeSet<String>> called = new TreeMap<>();
        for (Source.Method method : source.methods) {
            called.computeIfAbsent(method.name, name -> new TreeSet<>()).addAll(callsIn(method));
        }
        Set<String> known = new TreeSet<>(called.keySet());
        for (String function : LIBRARY) {
            known.add(function.substring(function.indexOf('.') + 1));
        }
        for (String name : words(source.code, "(?<!new )\\b[a-z]\\w*(?=\\()")) {
            Check.yes(name + " is a method of the class or to use", known.contains(name));
        }
        for (Source.Method method : source.methods) {
            if (method.isPublic()) {
                int depth = depth(method.name, called, new ArrayList<>());
                Check.yes(method.name + " goes " + depth + " deep", depth <= 8);
            }
        }
    }

    private static int depth(String name, TreeMap<String, TreeSet<String>> called, List<String> open) {
        if (open.contains(name)) {
            Check.report("recursion: " + open + " and " + name + " again");
            return 0;
        }
        open.add(name);
        int deepest = 0;
        for (String next : called.getOrDefault(name, new TreeSet<>())) {
            deepest = Math.max(deepest, depth(next, called, open));
        }
        open.remove(name);
        return deepest + 1;
    }

    /** Rule 11. */
    private static void sizes(Source source) {
        for (Source.Method method : source.methods) {
            Check.yes(method.name + " is of " + method.lines + " lines", method.lines <= 60);
            Check.yes(method.name + " takes " + method.parameters, method.parameters <= 7);
        }
        for (Class<?> type : allClasses()) {
            int fields = 0;
            for (Field field : type.getDeclaredFields()) {
                fields += Modifier.isStatic(field.getModifiers()) ? 0 : 1;
            }
            Check.yes(type + " has " + fields + " fields", fields <= 20);
        }
    }

    private static int count(String text, String pattern) {
        Matcher matcher = Pattern.compile(pattern).matcher(text);
        int count = 0;
        while (matcher.find()) {
            count++;
        }
        return count;
    }

    private static TreeSet<String> words(String text, String pattern) {
        TreeSet<String> found = new TreeSet<>();
        Matcher matcher = Pattern.compile(pattern).matcher(text);
        while (matcher.find()) {
            found.add(matcher.group());
        }
        return found;
    }
}
