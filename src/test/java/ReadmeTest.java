import java.io.IOException;
import java.nio.file.DirectoryStream;
import java.nio.file.Files;
import java.nio.file.Path;
import java.util.ArrayList;
import java.util.List;
import java.util.regex.Matcher;
import java.util.regex.Pattern;

/** README.md must tell the answers that the class gives, and name every call and every test. */
public final class ReadmeTest {
    private static final Path README = Path.of("README.md");
    private static final Path SOURCE = Path.of("src/main/java/ShadowLeases.java");
    private static final Path TESTS = Path.of("src/test/java");
    private static final Pattern CALL = Pattern.compile("public (?:int|long|double) (\\w+)\\(([^)]*)\\)");
    private static final Pattern TOLD = Pattern.compile("(.*;) +// (-?\\d+)\\b.*");
    private static final int CALLS_OF_THE_FACE = 23;
    private static final Checks CHECKS = new Checks("ReadmeTest");

    private final List<String> example;
    private int line;

    private ReadmeTest(List<String> example) {
        this.example = example;
    }

    public static void main(String[] args) throws IOException {
        new ReadmeTest(exampleOf(Files.readAllLines(README))).goThroughExample();
        String text = Files.readString(README);
        namesCalls(text);
        namesTests(text);
        CHECKS.finish();
    }

    private static List<String> exampleOf(List<String> lines) {
        int start = lines.indexOf("```java") + 1;
        int end = start + lines.subList(start, lines.size()).indexOf("```");
        return new ArrayList<>(lines.subList(start, end));
    }

    /** The next line of the example must be this call, with this answer behind it. */
    private void tells(String call, long answer) {
        String text = line < example.size() ? example.get(line) : "";
        line++;
        Matcher told = TOLD.matcher(text);
        boolean isCall = told.matches() && told.group(1).equals(call);
        CHECKS.isTrue("line " + line + " of the example is " + call + " and an answer: " + text, isCall);
        if (isCall) {
            CHECKS.is("README.md: " + call, answer, Long.parseLong(told.group(2)));
        }
    }

    private void goThroughExample() {
        CHECKS.isTrue("the example makes an object",
            example.get(line++).equals("ShadowLeases square = new ShadowLeases();"));
        ShadowLeases square = new ShadowLeases();
        int tower = square.build(4, 4, 2, 3, 4, 0);
        tells("int tower = square.build(4, 4, 2, 3, 4, 0);", tower);
        tells("square.area(tower, 7);", square.area(tower, 7));
        tells("square.shade(7, 6, 4);", square.shade(7, 6, 4));
        int stall = square.let(tower, 1, 7, 9, 2, 10);
        tells("int stall = square.let(tower, 1, 7, 9, 2, 10);", stall);
        int cart = square.let(tower, 2, 7, 7, 5, 20);
        tells("int cart = square.let(tower, 2, 7, 7, 5, 20);", cart);
        tells("square.gets(cart, 7);", square.gets(cart, 7));
        tells("square.gets(stall, 7);", square.gets(stall, 7));
        tells("square.cellOf(stall, 7, 0);", square.cellOf(stall, 7, 0));
        tells("square.lease(stall, 9);", square.lease(stall, 9));
        tells("square.advise(7, 9, 15, 1);", square.advise(7, 9, 15, 1));
        tells("square.wouldGet(tower, 9);", square.wouldGet(tower, 9));
        tells("square.pass(1);", square.pass(1));
        tells("square.got(0);", square.got(0));
        CHECKS.is("lines of the example", example.size(), line);
    }

    private static void namesCalls(String text) throws IOException {
        Matcher call = CALL.matcher(Files.readString(SOURCE));
        int found = 0;
        while (call.find()) {
            found++;
            String named = "`" + call.group(1) + "(" + call.group(2).replace("int ", "") + ")`";
            CHECKS.isTrue("README.md names " + named, text.contains("| " + named + " |"));
        }
        CHECKS.is("calls of the face", found, CALLS_OF_THE_FACE);
    }

    private static void namesTests(String text) throws IOException {
        try (DirectoryStream<Path> files = Files.newDirectoryStream(TESTS, "*.java")) {
            for (Path file : files) {
                String name = file.getFileName().toString().replace(".java", "");
                CHECKS.isTrue("README.md names " + name, text.contains("`" + name + "`"));
            }
        }
        Matcher named = Pattern.compile("`(\\w+Test)`").matcher(text);
        while (named.find()) {
            CHECKS.isTrue(named.group(1) + " stands", Files.exists(TESTS.resolve(named.group(1) + ".java")));
        }
    }
}
