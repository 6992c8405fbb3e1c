import java.io.IOException;
import java.nio.file.Files;
import java.nio.file.Path;
import java.util.ArrayDeque;
import java.util.ArrayList;
import java.util.Deque;
import java.util.List;
import java.util.regex.Matcher;
import java.util.regex.Pattern;

/** The text of the class without its comments and texts, and the methods and constructors in it. */
final class Source {
    private static final Pattern HEAD = Pattern.compile("(?s).*?(\\w+)\\s*\\(([^()]*)\\)[^()]*");
    private static final Pattern NO_METHOD = Pattern.compile("(if|else|for|while|do|switch|case|try|catch|new)\\b.*");

    static final class Method {
        final String name;
        final String head;
        final String body;
        final int parameters;
        final int lines;

        private Method(String name, String head, String body, String parameters) {
            this.name = name;
            this.head = head;
            this.body = body;
            this.parameters = parameters.isBlank() ? 0 : parameters.split(",").length;
            this.lines = (head + body).split("\n").length;
        }

        boolean isPublic() {
            return head.contains("public ");
        }

        /** A constructor has no type: ahead of its name there is nothing but who may call it. */
        boolean isConstructor() {
            return head.matches("(?s)(public |private )?" + name + "\\(.*");
        }
    }

    final String code;
    final List<Method> methods = new ArrayList<>();

    private Source(String code) {
        this.code = code;
    }

    static Source read(Path file) throws IOException {
        Source source = new Source(withoutTexts(Files.readString(file)));
        source.findMethods();
        return source;
    }

    private static String withoutTexts(String text) {
        return text.replaceAll("\"[^\"\n]*\"", "\"\"").replaceAll("(?s)/\\*.*?\\*/", " ").replaceAll("//[^\n]*", "");
    }

    /** Each brace that opens is remembered with what stands ahead of it, from the last ; or brace on. */
    private void findMethods() {
        Deque<Integer> opened = new ArrayDeque<>();
        Deque<Integer> heads = new ArrayDeque<>();
        int from = 0;
        for (int i = 0; i < code.length(); i++) {
            char sign = code.charAt(i);
            if (sign == '{') {
                opened.push(i);
                heads.push(from);
            } else if (sign == '}' && !opened.isEmpty()) {
                int open = opened.pop();
                addIfMethod(code.substring(heads.pop(), open).strip(), code.substring(open, i + 1));
            }
            if (sign == '{' || sign == '}' || sign == ';') {
                from = i + 1;
            }
        }
        if (!opened.isEmpty()) {
            Check.report("braces that are not closed: " + opened.size());
        }
    }

    private void addIfMethod(String head, String body) {
        Matcher parts = HEAD.matcher(head);
        if (!NO_METHOD.matcher(head.replace('\n', ' ')).matches() && !head.contains("=") && parts.matches()) {
            methods.add(new Method(parts.group(1), head, body, parts.group(2)));
        }
    }
}
