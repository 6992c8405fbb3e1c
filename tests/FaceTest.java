import java.lang.reflect.Constructor;
import java.lang.reflect.Field;
import java.lang.reflect.Method;
import java.lang.reflect.Modifier;
import java.util.Arrays;
import java.util.TreeSet;

/** The public face as the document has it, and nothing public beside it (LANGUAGE.md, rule 1). */
public final class FaceTest {
    private static final String I = "IndexOutOfBoundsException";
    private static final String A = "IllegalArgumentException";
    private static final String S = "IllegalStateException";
    private static final String[] FACE = {
        "int addHall 1 " + A + " " + S, "int addSurface 3 " + I + " " + A + " " + S,
        "int moveSurface 3 " + I + " " + A, "int setDamping 2 " + I + " " + A, "int clean 1 " + I,
        "int addStandard 5 " + A + " " + S, "boolean inspect 2 " + I, "int revoke 1 " + I + " " + S,
        "int passDays 1 " + A, "int surfacesOf 1 " + I, "int distanceOf 2 " + I, "int hardnessOf 2 " + I,
        "int dampingOf 1 " + I, "int dustOf 1 " + I, "int echoes 2 " + I + " " + A,
        "int loudEchoes 3 " + I + " " + A, "int firstEcho 2 " + I + " " + A, "int lastEcho 2 " + I + " " + A,
        "int loudnessAt 3 " + I + " " + A, "int loudestMoment 2 " + I + " " + A, "boolean meets 2 " + I,
        "int hallsMeeting 1 " + I, "boolean isCertified 1 " + I, "int certifiedBy 1 " + I + " " + S,
        "int daysLeft 1 " + I, "int halls 0", "int standards 0", "int day 0", "int inspections 0",
        "int certifiedHalls 0", "boolean meetsWithDamping 3 " + I + " " + A, "int leastDamping 2 " + I,
        "int daysUntilMet 2 " + I, "int easiestHall 1 " + I, "double meanDamping 0", "long digest 0"};

    public static void main(String[] args) {
        Class<EchoBureau> face = EchoBureau.class;
        Check.yes("the class is public", Modifier.isPublic(face.getModifiers()));
        Check.yes("the class is final", Modifier.isFinal(face.getModifiers()));
        TreeSet<String> due = new TreeSet<>(Arrays.asList(FACE));
        TreeSet<String> got = new TreeSet<>();
        TreeSet<String> names = new TreeSet<>();
        for (Method method : face.getDeclaredMethods()) {
            if (Modifier.isPublic(method.getModifiers())) {
                got.add(describe(method));
                names.add(method.getName());
            }
        }
        if (!got.equals(due)) {
            Check.report("the face is " + got + ", due is " + due);
        }
        Check.equal("public methods", names.size(), FACE.length);
        onlyPrivateBeside(face, names);
        for (Class<?> inside : face.getDeclaredClasses()) {
            Check.yes(inside + " is static", Modifier.isStatic(inside.getModifiers()));
            Check.no(inside + " is public", Modifier.isPublic(inside.getModifiers()));
        }
        Check.end();
    }

    private static String describe(Method method) {
        StringBuilder text = new StringBuilder();
        text.append(method.getReturnType()).append(' ').append(method.getName());
        text.append(' ').append(method.getParameterCount());
        for (Class<?> parameter : method.getParameterTypes()) {
            if (parameter != int.class) {
                text.append(" not an int: ").append(parameter);
            }
        }
        for (Class<?> thrown : method.getExceptionTypes()) {
            text.append(' ').append(thrown.getSimpleName());
        }
        return text.toString();
    }

    private static void onlyPrivateBeside(Class<EchoBureau> face, TreeSet<String> names) {
        for (Method method : face.getDeclaredMethods()) {
            if (!Modifier.isPublic(method.getModifiers())) {
                Check.yes(method + " is private", Modifier.isPrivate(method.getModifiers()));
                Check.no(method + " has a name of the face", names.contains(method.getName()));
            }
        }
        for (Field field : face.getDeclaredFields()) {
            int modifiers = field.getModifiers();
            Check.yes(field + " is private", Modifier.isPrivate(modifiers));
            Check.yes(field + " is final if static", !Modifier.isStatic(modifiers) || Modifier.isFinal(modifiers));
        }
        Constructor<?>[] constructors = face.getDeclaredConstructors();
        Check.equal("constructors", constructors.length, 1);
        for (Constructor<?> constructor : constructors) {
            Check.yes("the constructor is public", Modifier.isPublic(constructor.getModifiers()));
            Check.equal("the constructor's parameters", constructor.getParameterCount(), 0);
        }
    }
}
