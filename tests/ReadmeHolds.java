import java.io.IOException;
import java.lang.reflect.Method;
import java.nio.file.Files;
import java.nio.file.Path;
import java.util.ArrayList;
import java.util.Arrays;
import java.util.List;
import java.util.Map;
import java.util.Random;
import java.util.Set;
import java.util.TreeMap;
import java.util.TreeSet;
import java.util.regex.MatchResult;
import java.util.regex.Matcher;
import java.util.regex.Pattern;

/** README.md tells the truth: its examples, its texts, its tables of calls, of answers below 0 and of tests. */
public final class ReadmeHolds {
    private static final Due DUE = new Due();
    private static final String[] REFUSALS = {"BAD", "NOT", "FULL", "NONE", "NULL", "CAST", "INDEX", "SIZE"};
    private static final int RUNS = 3000, CALLS = 40, CALLS_OF_ONE = 90;

    public static void main(String[] args) throws IOException, ReflectiveOperationException {
        String page = Files.readString(Path.of("README.md"));
        examples(page);
        texts(page);
        answersBelow0(page);
        tests(page);
        calls(page);
        DUE.end();
    }

    private static List<MatchResult> all(String pattern, String page) {
        return Pattern.compile(pattern, Pattern.MULTILINE).matcher(page).results().toList();
    }

    private static Method named(String name) {
        for (Method m : DeedTortoise.class.getDeclaredMethods()) {
            if (m.getName().equals(name)) {
                return m;
            }
        }
        throw new IllegalArgumentException(name);
    }

    private static long answer(DeedTortoise x, Method m, long... numbers) throws ReflectiveOperationException {
        Object[] given = new Object[numbers.length];
        for (int k = 0; k < numbers.length; k++) {
            if (m.getParameterTypes()[k] == int.class) {
                given[k] = (int) numbers[k];
            } else {
                given[k] = numbers[k];
            }
        }
        return ((Number) m.invoke(x, given)).longValue();
    }

    /** Every line of the Java examples is called, and answers what stands behind it. */
    private static void examples(String page) throws ReflectiveOperationException {
        DeedTortoise x = null;
        int called = 0;
        for (MatchResult fence : all("^```java\\n([^`]*)```$", page)) {
            for (String line : fence.group(1).split("\\n")) {
                Matcher call = Pattern.compile("x\\.(\\w+)\\(([^)]*)\\); +// (-?\\d+): .+").matcher(line);
                if (line.startsWith("DeedTortoise x = new DeedTortoise();")) {
                    x = new DeedTortoise();
                } else if (call.matches()) {
                    long[] numbers = Arrays.stream(call.group(2).split(", ")).filter(s -> !s.isEmpty()).mapToLong(Long::parseLong).toArray();
                    DUE.is(line, answer(x, named(call.group(1)), numbers), Long.parseLong(call.group(3)));
                    called++;
                } else {
                    DUE.isTrue("a call with its answer: " + line, false);
                }
            }
        }
        DUE.isTrue("there are examples", called > 20);
    }

    private static void texts(String page) {
        List<MatchResult> rows = all("^\\| `([^`]*:[^`]*)` \\| (-?\\d+) \\|$", page);
        for (MatchResult row : rows) {
            DUE.is("the valley " + row.group(1), Due.valley(new DeedTortoise(), row.group(1)), Long.parseLong(row.group(2)));
        }
        DUE.isTrue("there are texts", rows.size() > 5);
    }

    private static void answersBelow0(String page) throws ReflectiveOperationException {
        Set<String> told = new TreeSet<>();
        for (MatchResult row : all("^\\| (-\\d+) \\| `([A-Z]+)` \\| .+ \\|$", page)) {
            DUE.is(row.group(2), Long.parseLong(row.group(1)), DeedTortoise.class.getField(row.group(2)).getInt(null));
            told.add(row.group(2));
        }
        DUE.isTrue("all answers below 0 are told: " + told, told.equals(Set.of(REFUSALS)));
    }

    /** The table of tests names all that stand under tests, and no other. */
    private static void tests(String page) throws IOException {
        Set<String> told = new TreeSet<>();
        for (MatchResult row : all("^\\| (`[A-Z]\\w+`(, `[A-Z]\\w+`)*) \\| .+ \\|$", page.substring(page.indexOf("\n## How to run its tests")))) {
            told.addAll(Arrays.asList(row.group(1).replace("`", "").split(", ")));
        }
        Set<String> standing = new TreeSet<>();
        try (var files = Files.list(Path.of("tests"))) {
            files.map(f -> f.getFileName().toString()).filter(f -> f.endsWith(".java")).forEach(f -> standing.add(f.replace(".java", "")));
        }
        DUE.isTrue("the tests told: " + told + ", standing: " + standing, told.equals(standing));
    }

    /** The tables of calls: numbers and names as in the document, all of the face, refused by what is seen. */
    private static void calls(String page) throws IOException, ReflectiveOperationException {
        Map<String, Set<Long>> below0 = new TreeMap<>();
        for (Method m : DeedTortoise.class.getDeclaredMethods()) {
            if (m.getModifiers() == java.lang.reflect.Modifier.PUBLIC) {
                below0.put(m.getName(), new TreeSet<>());
            }
        }
        for (int run = 0; run < RUNS; run++) {
            drawnCalls(new Random(run), below0);
        }
        lastDay(below0.get("days"));
        String source = Files.readString(Path.of("src/main/java/DeedTortoise.java"));
        String doc = Files.readString(Path.of("../shared/DOC.md"));
        List<String> told = new ArrayList<>();
        for (MatchResult row : all("^\\| (\\d+) \\| `((?:int|long) (\\w+)\\([^)]*\\))` \\| (.+) \\| ?(.*) ?\\|$", page)) {
            String name = row.group(3);
            told.add(name);
            DUE.isTrue("in the class: " + row.group(2), source.contains("    public " + row.group(2) + " {\n"));
            DUE.isTrue("in the document: " + row.group(2), doc.contains("    public " + row.group(2) + ";\n"));
            DUE.isTrue("the promise of " + name, doc.contains("## Promise " + row.group(1) + ": " + name + "\n"));
            refusals(name, row.group(5), below0.get(name));
        }
        DUE.isTrue("told each once: " + told, told.size() == below0.size() && new TreeSet<>(told).equals(below0.keySet()));
    }

    private static void refusals(String name, String told, Set<Long> seen) throws ReflectiveOperationException {
        for (String refusal : REFUSALS) {
            long number = DeedTortoise.class.getField(refusal).getInt(null);
            boolean isTold = Pattern.compile("\\b" + refusal + "\\b").matcher(told).find();
            DUE.isTrue(name + " is refused by " + refusal + ", told: " + isTold, isTold == seen.contains(number));
        }
        boolean hasFaults = seen.stream().anyMatch(number -> number <= -20);
        DUE.isTrue(name + " has faults, told: " + told, told.contains("faults") == hasFaults);
        DUE.isTrue(name + " has no other answer below 0", seen.stream().allMatch(n -> n <= -20 || n >= -4 || n <= -11 && n >= -14));
    }

    /** Calls with drawn numbers, and which of their answers are below 0. */
    private static void drawnCalls(Random random, Map<String, Set<Long>> below0) throws ReflectiveOperationException {
        DeedTortoise x = new DeedTortoise();
        List<String> names = new ArrayList<>(below0.keySet());
        for (int k = 0; k < CALLS; k++) {
            String name = names.get(random.nextInt(names.size()));
            drawnCall(x, random, name, below0.get(name));
        }
        // one of them again and again, so that what can be full is full
        String often = names.get(random.nextInt(names.size()));
        for (int k = 0; k < CALLS_OF_ONE; k++) {
            drawnCall(x, random, often, below0.get(often));
        }
    }

    private static void drawnCall(DeedTortoise x, Random random, String name, Set<Long> below0) throws ReflectiveOperationException {
        Method m = named(name);
        long[] numbers = random.longs(m.getParameterCount(), -1, 2 + random.nextInt(10)).toArray();
        if (name.equals("type")) {
            numbers[0] = random.nextInt(25, 130);
        }
        long answer = answer(x, m, numbers);
        if (answer < 0) {
            below0.add(answer);
        }
    }

    private static void lastDay(Set<Long> below0) {
        DeedTortoise x = new DeedTortoise();
        for (int k = 0; k < 250; k++) {
            x.days(40);
        }
        below0.add((long) x.days(40));
    }
}
