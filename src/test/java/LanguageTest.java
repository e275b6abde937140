import java.io.IOException;
import java.nio.charset.StandardCharsets;
import java.nio.file.Files;
import java.nio.file.Path;
import java.util.regex.Matcher;
import java.util.regex.Pattern;

/** The rules of LANGUAGE.md that can be seen in the program's text; run from the project's root. */
final class LanguageTest {
    private static final Due due = new Due();

    public static void main(String[] args) throws IOException {
        String text = Files.readString(Path.of("src/main/java/MothTongue.java"), StandardCharsets.UTF_8);
        due.isTrue("ASCII alone", text.chars().allMatch(c -> c == '\n' || c >= 32 && c < 127));
        String code = text.replaceAll("(?s)/\\*.*?\\*/", "").replaceAll("//[^\n]*", "").replaceAll("\"[^\"\n]*\"", "\"\"");
        for (String word : new String[] {"throw", "throws", "try", "catch", "finally", "synchronized", "assert", "package", "import",
            "double", "float", "volatile", "native", "Object", "protected"}) {
            lacks(code, "\\b" + word + "\\b");
        }
        lacks(code, "->");
        lacks(code, "::");
        lacks(code, "@");
        lacks(code, "static\\s*\\{");
        lacks(code, "Exact\\b");
        lacks(code, "\\bwhile\\s*\\(\\s*true");
        lacks(code, "\"\"\\s*\\+|\\+\\s*\"\"");
        library(code);
        madeOnce(code);
        due.end();
    }

    private static void lacks(String code, String pattern) {
        due.isTrue("no " + pattern, !Pattern.compile(pattern).matcher(code).find());
    }

    private static void library(String code) {
        Matcher m = Pattern.compile("\\b(System|Math|Integer|Long|Arrays)\\.(\\w+)").matcher(code);
        while (m.find()) {
            due.isTrue("listed: " + m.group(), m.group().matches("System\\.arraycopy|Math\\.(min|max)|Integer\\.bitCount"));
        }
    }

    /** All that is made is made with the object: at fields, and in the constructor's own loop. */
    private static void madeOnce(String code) {
        for (String line : code.split("\n")) {
            if (line.matches(".*\\bnew\\b.*")) {
                due.isTrue("made with the object: " + line.strip(),
                        line.matches("\\s*(private )?final \\S+ \\w+ = new .*") || line.strip().equals("sheets[s] = new Sheet();"));
            }
        }
    }
}
