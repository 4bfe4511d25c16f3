import java.io.IOException;
import java.lang.reflect.Method;
import java.nio.file.Files;
import java.nio.file.Path;
import java.util.ArrayList;
import java.util.List;
import java.util.Set;
import java.util.TreeSet;
import java.util.regex.Matcher;
import java.util.regex.Pattern;
import java.util.stream.Stream;

/** README.md: what it shows is so, every call and every test is told, and tests are run as .ci/run runs them. */
public final class ReadmeTest {
    private static final Check CHECK = new Check("ReadmeTest");
    private static final Pattern CALL = Pattern.compile("fair\\.(\\w+)\\((.*?)\\);\\s+// (-?\\d+|[A-Z]+):.*");
    private static final Pattern ROW = Pattern.compile("\\| `(\\w+\\([^`]*\\))` \\|.*\\|([^|]*)\\|");
    private static final Pattern FACE = Pattern.compile("    public int (\\w+\\(.*\\));");
    private static final Pattern PROMISE = Pattern.compile("`int (\\w+\\([^`]*\\))`: (.*)");
    private static final String[] REFUSALS = {"BAD", "NO", "FULL", "NONE"};

    public static void main(String[] args) throws Exception {
        List<String> readme = Files.readAllLines(Path.of("README.md"));
        List<String> document = Files.readAllLines(Path.of("../shared/DOC.md"));
        for (String line : readme) {
            CHECK.holds("120 signs at most: " + line, line.length() <= 120);
        }
        shownCalls(readme);
        toldCalls(readme, document);
        toldTests(String.join("\n", readme));
        waysToRun(readme, Files.readAllLines(Path.of(".ci/run")));
        CHECK.close();
    }

    /** Each call that is shown answers what stands behind it. */
    private static void shownCalls(List<String> readme) throws Exception {
        LotsBid fair = null;
        int shown = 0;
        for (String line : blocks(readme, "java")) {
            if (line.startsWith("LotsBid fair = new LotsBid();")) {
                fair = new LotsBid();
                continue;
            }
            Matcher call = CALL.matcher(line);
            CHECK.holds("a call with its answer: " + line, call.matches());
            if (call.matches()) {
                shown++;
                CHECK.due("README.md's " + line, answer(fair, call.group(1), call.group(2)), due(call.group(3)));
            }
        }
        CHECK.holds("there are calls shown", shown > 20);
    }

    private static long due(String answer) throws Exception {
        return answer.matches("[A-Z]+") ? LotsBid.class.getField(answer).getInt(null) : Long.parseLong(answer);
    }

    private static int answer(LotsBid fair, String name, String told) throws Exception {
        String[] parts = told.isEmpty() ? new String[0] : told.split(", ");
        for (Method method : LotsBid.class.getMethods()) {
            if (method.getName().equals(name) && method.getParameterCount() == parts.length) {
                Object[] values = new Object[parts.length];
                for (int k = 0; k < parts.length; k++) {
                    values[k] = value(method.getParameterTypes()[k], parts[k]);
                }
                return (Integer) method.invoke(fair, values);
            }
        }
        throw new IllegalStateException("no call " + name + " of so many numbers");
    }

    private static Object value(Class<?> type, String told) {
        if (type == boolean.class) {
            return Boolean.valueOf(told);
        }
        return type == long.class ? (Object) Long.decode(told.replace("L", "")) : (Object) Integer.valueOf(told);
    }

    /** Every call of the document's face has a row, in its order, with the refusals that its promise names. */
    private static void toldCalls(List<String> readme, List<String> document) {
        List<String> face = new ArrayList<>();
        List<String> promises = new ArrayList<>();
        for (String line : document) {
            Matcher call = FACE.matcher(line);
            if (call.matches()) {
                face.add(call.group(1));
            }
            Matcher promise = PROMISE.matcher(line);
            if (promise.matches()) {
                promises.add(promise.group(1) + refusalsOf(promise.group(2)));
            }
        }
        List<String> calls = new ArrayList<>();
        List<String> rows = new ArrayList<>();
        for (String line : readme) {
            Matcher row = ROW.matcher(line);
            if (row.matches()) {
                calls.add(row.group(1));
                rows.add(row.group(1) + refusalsOf(line));
            }
        }
        CHECK.due("calls of the document", face.size(), 25);
        CHECK.holds("the calls of the face: " + calls, calls.equals(face));
        CHECK.holds("their refusals: " + rows + " are " + promises, rows.equals(promises));
    }

    private static Set<String> refusalsOf(String text) {
        Set<String> named = new TreeSet<>();
        for (String refusal : REFUSALS) {
            if (Pattern.compile("\\b" + refusal + "\\b").matcher(text).find()) {
                named.add(refusal);
            }
        }
        return named;
    }

    /** Every test of the project is told, and no other. */
    private static void toldTests(String readme) throws IOException {
        Set<String> tests = new TreeSet<>();
        try (Stream<Path> files = Files.list(Path.of("src/test/java"))) {
            files.map(file -> file.getFileName().toString()).filter(name -> name.endsWith("Test.java"))
                .forEach(name -> tests.add(name.replace(".java", "")));
        }
        Set<String> told = new TreeSet<>();
        Matcher name = Pattern.compile("`(\\w+Test)`").matcher(readme);
        while (name.find()) {
            told.add(name.group(1));
        }
        CHECK.holds("tests that are told: " + told + " are " + tests, told.equals(tests));
    }

    /** The lines to run tests by hand are those of .ci/run, which is itself the way to run all of them. */
    private static void waysToRun(List<String> readme, List<String> script) {
        List<String> ways = new ArrayList<>(blocks(readme, "sh"));
        CHECK.holds("the first way is .ci/run", !ways.isEmpty() && ways.remove(0).equals(".ci/run"));
        CHECK.holds(".ci/run can be run", Files.isExecutable(Path.of(".ci/run")));
        List<String> byHand = new ArrayList<>();
        for (String line : ways) {
            byHand.add(line.replaceAll("\\b(PromiseTest|LotsBidRuns)\\b(?!\\.java)", "\\$name")
                .replace("tests/LotsBidRuns.java", "tests/$name.java"));
        }
        List<String> byScript = new ArrayList<>();
        for (String line : script) {
            String command = line.trim().replace("\"", "").replaceAll(" (&&|\\|\\| exit 1)$", "");
            if (command.matches("javac? .*")) {
                byScript.add(command);
            }
        }
        CHECK.due("commands of .ci/run", byScript.size(), 4);
        CHECK.holds("by hand " + byHand + ", by .ci/run " + byScript, byHand.equals(byScript));
    }

    private static List<String> blocks(List<String> readme, String language) {
        List<String> lines = new ArrayList<>();
        boolean inside = false;
        for (String line : readme) {
            if (line.startsWith("```")) {
                inside = line.equals("```" + language);
            } else if (inside && !line.isBlank()) {
                lines.add(line);
            }
        }
        return lines;
    }
}
