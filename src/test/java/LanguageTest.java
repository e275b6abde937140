import java.io.IOException;
import java.nio.charset.StandardCharsets;
import java.nio.file.Files;
import java.nio.file.Path;
import java.util.LinkedHashMap;
import java.util.Map;
import java.util.regex.Matcher;
import java.util.regex.Pattern;

/** The rules of LANGUAGE.md that can be seen in the program's text; run from the project's root. */
final class LanguageTest {
    private static final Due due = new Due();

    public static void main(String[] args) throws IOException {
        String text = Files.readString(Path.of("src/main/java/MothTongue.java"), StandardCharsets.UTF_8);
        due.isTrue("ASCII alone", text.chars().allMatch(c -> c == '\n' || c >= 32 && c < 127));
        String code = text.replaceAll("(?s)/\\*.*?\\*/", "").replaceAll("//[^\n]*", "").replaceAll("\"[^\"\n]*\"", "\"\"");
        for (String word : new String[] {"throw", "throws", "try", "catch", "finally", "synchronized", "assert", "package", "import",
            "double", "float", "volatile", "native", "Object", "protected"}) {
            lacks(code, "\\b" + word + "\\b");
        }
        lacks(code, "->");
        lacks(code, "::");
        lacks(code, "@");
        lacks(code, "static\\s*\\{");
        lacks(code, "Exact\\b");
        lacks(code, "\\bwhile\\s*\\(\\s*true");
        lacks(code, "\"\"\\s*\\+|\\+\\s*\"\"");
        library(code);
        madeOnce(code);
        staticFields(code);
        shortMethods(code);
        shallowCalls(code);
        due.end();
    }

    private static void lacks(String code, String pattern) {
        due.isTrue("no " + pattern, !Pattern.compile(pattern).matcher(code).find());
    }

    private static void library(String code) {
        Matcher m = Pattern.compile("\\b(System|Math|Integer|Long|Arrays)\\.(\\w+)").matcher(code);
        while (m.find()) {
            due.isTrue("listed: " + m.group(), m.group().matches("System\\.arraycopy|Math\\.(min|max)|Integer\\.bitCount"));
        }
    }

    /** All that is made is made with the object: at fields, and in the constructor's own loop. */
    private static void madeOnce(String code) {
        for (String line : code.split("\n")) {
            if (line.matches(".*\\bnew\\b.*")) {
                due.isTrue("made with the object: " + line.strip(),
                        line.matches("\\s*(private )?final \\S+ \\w+ = new .*") || line.strip().equals("sheets[s] = new Sheet();"));
            }
        }
    }

    /** Rule 5: constants, and rows written out in their initialiser. */
    private static void staticFields(String code) {
        for (String line : code.split("\n")) {
            if (line.matches("\\s*(private )?static [^(]*(=.*)?;")) {
                due.isTrue("a constant: " + line.strip(),
                        line.matches("\\s*private static final (int|long|boolean|char|String|(int|long|char|byte)\\[\\]) [A-Z_]+ = .*;"));
            }
        }
    }

    /** Rule 11: some sixty lines at most from a method's head to its end, and seven parameters. */
    private static void shortMethods(String code) {
        String[] lines = code.split("\n");
        int heads = 0;
        for (int i = 0; i < lines.length; i++) {
            if (!lines[i].matches("( {4}| {8})(public|private|static|final|int|long|void|boolean|String|Drawer)\\b[^=;]*\\) \\{")) {
                continue;
            }
            heads++;
            String end = lines[i].replaceAll("\\S.*", "") + "}";
            int last = i;
            while (!lines[last].equals(end)) {
                last++;
            }
            due.isTrue("short: " + lines[i].strip(), last - i < 60);
            due.isTrue("few parameters: " + lines[i].strip(), lines[i].split(",").length <= 7);
        }
        due.isTrue("methods were found: " + heads, heads > 42);
        due.isTrue("at most twelve classes", code.split("\\bclass\\b").length - 1 <= 12);
    }

    /** Rule 11: calls go at most eight deep, the library's own among them; one is kept in hand. */
    private static void shallowCalls(String code) {
        Map<String, String> bodies = bodies(code);
        for (String call : Calls.FACE) {
            String name = call.split(" ")[0];
            due.isTrue("found: " + name, bodies.containsKey("MothTongue." + name));
            int depth = depth(bodies, "MothTongue." + name, 1);
            due.isTrue(name + " goes " + depth + " deep", depth <= 7);
        }
        due.isTrue("what nights bring lies deep", depth(bodies, "MothTongue.says", 1) > 5);
        due.isTrue("what texts tell lies deep", depth(bodies, "MothTongue.text", 1) > 5);
    }

    /** Each method's lines, by its class and name; no name stands for two methods of a class. */
    private static Map<String, String> bodies(String code) {
        Map<String, String> bodies = new LinkedHashMap<>();
        String inside = "MothTongue";
        String method = null;
        for (String line : code.split("\n")) {
            Matcher head = Pattern.compile("( {4}| {8})[a-z][^=;(]* (\\w+)\\(.*\\) \\{").matcher(line);
            Matcher nested = Pattern.compile(" {4}private static final class (\\w+) \\{").matcher(line);
            if (nested.matches()) {
                inside = nested.group(1);
            } else if (method == null && head.matches()) {
                method = inside + "." + head.group(2);
                due.isTrue("one of its name: " + method, bodies.put(method, "") == null);
            } else if (method != null && line.matches(inside.equals("MothTongue") ? " {4}\\}" : " {8}\\}")) {
                method = null;
            } else if (method != null) {
                bodies.merge(method, line + "\n", String::concat);
            }
        }
        return bodies;
    }

    private static int depth(Map<String, String> bodies, String method, int open) {
        int deepest = open;
        Matcher call = Pattern.compile("(\\w+\\.|\\.|\\b)(\\w+)\\(").matcher(bodies.getOrDefault(method, ""));
        while (open < 40 && call.find()) {
            for (String called : called(bodies, method, call.group(1), call.group(2))) {
                deepest = Math.max(deepest, depth(bodies, called, open + 1));
            }
        }
        return deepest;
    }

    /** Which methods a call may mean: behind an object's dot any class's, as long as it isn't told. */
    private static String[] called(Map<String, String> bodies, String from, String before, String name) {
        if (bodies.containsKey(before + name)) {
            return new String[] {before + name};
        }
        if (before.isEmpty()) {
            String own = from.replaceAll("\\..*", "." + name);
            return new String[] {bodies.containsKey(own) ? own : "MothTongue." + name};
        }
        String[] all = bodies.keySet().stream()
                .filter(m -> m.endsWith("." + name) && !m.startsWith("MothTongue.") && !m.startsWith("Kinds."))
                .toArray(String[]::new);
        return all.length > 0 ? all : new String[] {"library." + name};
    }
}
