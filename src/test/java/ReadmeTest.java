import java.io.IOException;
import java.nio.charset.StandardCharsets;
import java.nio.file.Files;
import java.nio.file.Path;
import java.util.ArrayList;
import java.util.Arrays;
import java.util.List;
import java.util.Set;
import java.util.TreeSet;
import java.util.regex.Matcher;
import java.util.regex.Pattern;
import java.util.stream.Stream;

/** README.md: its calls answer what it says, and its way to run the tests runs all; run from the project's root. */
final class ReadmeTest {
    private static final String MADE = "MothTongue drawer = new MothTongue();";
    private static final Pattern CALL = Pattern.compile("drawer\\.(\\w+)\\(([^)]*)\\); *// (-?\\d+)(: .+)?");
    private static final String[] FINDINGS = {"BEYOND", "FULL", "KIND", "NONE", "STATE", "MISSING", "SIZE"};

    private static final Due due = new Due();
    private static final Set<String> shown = new TreeSet<>();

    public static void main(String[] args) throws IOException {
        String text = Files.readString(Path.of("README.md"), StandardCharsets.UTF_8);
        for (String block : blocks(text, "java")) {
            play(block);
        }
        for (String call : Calls.FACE) {
            due.isTrue("shown: " + call, shown.contains(call.split(" ")[0]));
        }
        for (int i = 0; i < FINDINGS.length; i++) {
            due.isTrue("told: " + FINDINGS[i], text.contains("| " + FINDINGS[i] + " | " + (Due.BEYOND - i) + " |"));
        }
        due.isTrue("tests are run by .ci/run", blocks(text, "sh").contains(".ci/run\n"));
        due.isTrue(".ci/run can be run", Files.isExecutable(Path.of(".ci/run")));
        allTestsAreFound();
        due.end();
    }

    private static List<String> blocks(String text, String language) {
        List<String> blocks = new ArrayList<>();
        Matcher m = Pattern.compile("(?ms)^```" + language + "\n(.*?)^```$").matcher(text);
        while (m.find()) {
            blocks.add(m.group(1));
        }
        due.isTrue("blocks of " + language, !blocks.isEmpty());
        return blocks;
    }

    /** A block makes an object and then calls it; a line that can't be played is wrong, too. */
    private static void play(String block) {
        String[] lines = block.split("\n");
        due.isTrue("a block begins with a new object: " + lines[0], lines[0].equals(MADE));
        MothTongue drawer = new MothTongue();
        for (int i = 1; i < lines.length; i++) {
            Matcher m = CALL.matcher(lines[i]);
            boolean isCall = m.matches();
            due.isTrue("a call with its answer: " + lines[i], isCall);
            if (isCall) {
                int[] numbers = Arrays.stream(m.group(2).split(", ")).filter(n -> !n.isEmpty())
                        .mapToInt(Integer::decode).toArray();
                due.is(lines[i], Calls.on(drawer, m.group(1), numbers), Long.parseLong(m.group(3)));
                shown.add(m.group(1));
            }
        }
    }

    /** .ci/run takes src/test/java/*Test.java for tests, so whatever can be run must be one of these. */
    private static void allTestsAreFound() throws IOException {
        int tests = 0;
        try (Stream<Path> files = Files.walk(Path.of("src/test"))) {
            for (Path file : files.filter(f -> f.toString().endsWith(".java")).toList()) {
                boolean isTest = Files.readString(file, StandardCharsets.UTF_8).contains("void main(");
                boolean isFound = file.getParent().equals(Path.of("src/test/java")) && file.toString().endsWith("Test.java");
                due.isTrue("run if it is a test: " + file, isTest == isFound);
                tests += isTest ? 1 : 0;
            }
        }
        due.isTrue("tests were found: " + tests, tests > 18);
    }
}
