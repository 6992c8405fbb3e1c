import java.io.IOException;
import java.nio.file.Files;
import java.nio.file.Path;
import java.util.List;

/** Those rules of LANGUAGE.md that the text of the class shows; it is started in the project's directory. */
public final class LanguageTest {
    private static final String[] NEVER = {"->", "::", " catch ", " try ", " finally ", "synchronized", "assert ",
        " transient ", " volatile ", " native ", "static {", "Exact(", "System.", "Thread", "java.lang",
        "equals(", "hashCode(", "toString(", "package "};

    public static void main(String[] args) throws IOException {
        List<String> lines = Files.readAllLines(Path.of("src", "main", "java", "EchoBureau.java"));
        int classes = 0;
        for (int i = 0; i < lines.size(); i++) {
            String line = lines.get(i);
            String where = "line " + (i + 1) + ": " + line.trim();
            for (String never : NEVER) {
                Check.no(where + " has " + never, line.contains(never));
            }
            if (line.startsWith("import ")) {
                Check.yes(where, line.equals("import java.util.Arrays;"));
            }
            Check.yes(where + " is of plain signs", line.chars().allMatch(c -> c >= 32 && c < 127));
            if (line.contains(" throw ")) {
                Check.yes(where + " throws anew, with a written text",
                    line.trim().matches("throw new [A-Za-z]+Exception\\(\"[^\"]*\"\\);"));
            }
            if (line.matches(".*\\b(class|interface|enum|record) [A-Z].*")) {
                classes++;
            }
        }
        Check.yes("classes: " + classes, classes >= 1 && classes <= 12);
        Check.end();
    }
}
