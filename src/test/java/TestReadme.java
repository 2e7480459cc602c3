import java.io.IOException;
import java.nio.charset.StandardCharsets;
import java.nio.file.Files;
import java.nio.file.Path;
import java.util.List;
import java.util.Map;
import java.util.Set;
import java.util.TreeSet;
import java.util.regex.Matcher;
import java.util.regex.Pattern;
import java.util.stream.Collectors;
import java.util.stream.Stream;

/** Every call that README.md shows answers what README.md says; it shows every call, and names every test. */
public final class TestReadme {
    private static final Due DUE = new Due();
    private static final String MAKE = "LeastAlone x = new LeastAlone();";
    private static final Pattern LINE = Pattern.compile("x\\.(\\w+)\\(([^)]*)\\); +// (-?\\d+)(?: +([A-Z]+)\\b.*| +.*)?");
    private static final Pattern TEST = Pattern.compile("`(Test\\w+)`");
    private static final Map<String, Integer> NAMED = Map.of("UNKNOWN", LeastAlone.UNKNOWN, "OUTSIDE", LeastAlone.OUTSIDE,
            "NO", LeastAlone.NO, "STATE", LeastAlone.STATE, "FULL", LeastAlone.FULL, "NONE", LeastAlone.NONE);

    private final Set<String> shown = new TreeSet<>();
    private LeastAlone x = null;

    public static void main(String[] args) throws IOException {
        String page = Files.readString(Path.of("README.md"), StandardCharsets.UTF_8);
        TestReadme test = new TestReadme();
        test.runBlocks(page.lines().toList());
        DUE.about("README.md shows every call");
        for (String call : Calls.NAMES) {
            DUE.holds(call, test.shown.contains(call));
        }
        refusalsByName(page);
        testsByName(page);
        DUE.end("TestReadme");
    }

    private void runBlocks(List<String> lines) {
        boolean inside = false;
        for (String line : lines) {
            if (line.startsWith("```")) {
                inside = line.equals("```java");
                // Each block makes an object of its own.
                x = null;
            } else if (inside) {
                runLine(line);
            }
        }
    }

    private void runLine(String line) {
        if (line.equals(MAKE)) {
            x = new LeastAlone();
            return;
        }
        Matcher parts = LINE.matcher(line);
        boolean may = x != null && parts.matches();
        DUE.about("README.md: " + line);
        DUE.holds("a call of an object that was made, with its answer", may);
        if (may) {
            compare(parts.group(1), parts.group(2), Long.parseLong(parts.group(3)), parts.group(4));
        }
    }

    private void compare(String call, String arguments, long want, String name) {
        shown.add(call);
        String[] all = arguments.isEmpty() ? new String[0] : arguments.split(", ");
        boolean may = List.of(Calls.NAMES).contains(call) && all.length == Calls.arguments(call);
        DUE.holds("a call of the face", may);
        if (!may) {
            return;
        }
        int[] abc = new int[3];
        for (int i = 0; i < all.length; i++) {
            abc[i] = all[i].startsWith("'") ? all[i].charAt(1) : Integer.parseInt(all[i]);
        }
        DUE.is("it", Calls.ask(x, call, abc[0], abc[1], abc[2]), want);
        boolean negative = want < 0;
        DUE.is("a name of the answer, if it is below 0", name != null && NAMED.containsKey(name) ? 1 : 0, negative ? 1 : 0);
        if (negative && NAMED.containsKey(name)) {
            DUE.is("the name's number", want, NAMED.get(name) + (Calls.isFraction(call) ? LeastAlone.LOST : 0));
        }
    }

    private static void refusalsByName(String page) {
        DUE.about("README.md tells each refusal with its number");
        for (String name : new String[] {"UNKNOWN", "OUTSIDE", "NO", "STATE", "FULL"}) {
            DUE.holds(name, page.contains("| `" + name + "` | " + NAMED.get(name) + " |"));
        }
        DUE.holds("NONE", page.contains("`NONE` (" + LeastAlone.NONE + ")"));
        DUE.holds("LOST", page.contains("`LOST` (" + LeastAlone.LOST + ")"));
    }

    private static void testsByName(String page) throws IOException {
        Set<String> named = new TreeSet<>();
        Matcher names = TEST.matcher(page);
        while (names.find()) {
            named.add(names.group(1));
        }
        try (Stream<Path> files = Files.list(Path.of("src/test/java"))) {
            Set<String> there = files.map(file -> file.getFileName().toString()).filter(file -> file.endsWith(".java"))
                    .map(file -> file.substring(0, file.length() - 5)).collect(Collectors.toCollection(TreeSet::new));
            DUE.about("README.md names every test");
            DUE.holds(named + " are " + there, named.equals(there));
        }
    }
}
