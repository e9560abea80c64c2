import java.lang.reflect.Method;
import java.nio.file.DirectoryStream;
import java.nio.file.Files;
import java.nio.file.Path;
import java.util.ArrayList;
import java.util.List;
import java.util.TreeMap;
import java.util.regex.Matcher;
import java.util.regex.Pattern;

/** README.md says what is so: its example's answers, its calls with their refusals, its tests. */
public final class ReadmeTest {
    static final String[] REFUSALS = {"UNKNOWN", "OUTSIDE", "NOT", "FULL"};
    static int checks = 0, wrong = 0;

    static void due(String what, Object got, Object want) {
        checks++;
        if (!want.equals(got)) {
            wrong++;
            System.out.println(what + " is " + got + ", due is " + want);
        }
    }

    static Method called(String name) {
        for (Method m : OneManDesk.class.getMethods()) if (m.getName().equals(name)) return m;
        throw new IllegalArgumentException("no call " + name);
    }

    static Object argument(Class<?> type, String word) {
        if (type == boolean.class) return Boolean.valueOf(word);
        if (type == long.class) return Long.decode(word.replace("L", ""));
        return Integer.decode(word);
    }

    static int answer(OneManDesk desk, String name, String words) throws Exception {
        Method m = called(name);
        Class<?>[] types = m.getParameterTypes();
        String[] given = words.isBlank() ? new String[0] : words.split(", ");
        due("how many numbers " + name + " takes", given.length, types.length);
        Object[] arguments = new Object[types.length];
        for (int i = 0; i < types.length; i++) arguments[i] = argument(types[i], given[i]);
        return (Integer) m.invoke(desk, arguments);
    }

    static void example(String readme) throws Exception {
        String code = readme.substring(readme.indexOf("```java"), readme.indexOf("```", readme.indexOf("```java") + 7));
        OneManDesk desk = new OneManDesk();
        int lines = 0;
        for (String line : code.split("\n")) {
            if (!line.startsWith("desk.")) continue;
            Matcher m = Pattern.compile("desk\\.(\\w+)\\((.*?)\\); +// .* -> (-?\\d+)").matcher(line);
            due("form of: " + line, m.matches(), true);
            if (!m.matches()) continue;
            lines++;
            due(line, answer(desk, m.group(1), m.group(2)), Integer.valueOf(m.group(3)));
        }
        due("the example has calls", lines >= 20, true);
    }

    /** Calls as the document writes them, without types, with the refusals that their promises name. */
    static TreeMap<String, List<String>> promised(String doc) {
        TreeMap<String, List<String>> calls = new TreeMap<>();
        Matcher m = Pattern.compile("(?m)^`int (\\w+)\\((.*?)\\)`: (.*)$").matcher(doc);
        while (m.find()) calls.put(m.group(1) + "(" + m.group(2).replaceAll("\\w+ (\\w+)", "$1") + ")", refusalsIn(m.group(3)));
        return calls;
    }

    static TreeMap<String, List<String>> listed(String readme) {
        TreeMap<String, List<String>> calls = new TreeMap<>();
        Matcher m = Pattern.compile("(?m)^\\| `(\\w+\\(.*?\\))` \\| .* \\|(.*)\\|$").matcher(readme);
        while (m.find()) calls.put(m.group(1), refusalsIn(m.group(2)));
        return calls;
    }

    static List<String> refusalsIn(String words) {
        List<String> found = new ArrayList<>();
        for (String refusal : REFUSALS) if (words.matches(".*\\b" + refusal + "\\b.*")) found.add(refusal);
        return found;
    }

    static void calls(String readme) throws Exception {
        TreeMap<String, List<String>> promised = promised(Files.readString(Path.of("../shared/DOC.md")));
        due("how many promises", promised.size(), 35);
        due("calls with their refusals", listed(readme), promised);
    }

    static void refusals(String readme) throws Exception {
        for (String refusal : REFUSALS) {
            int value = OneManDesk.class.getField(refusal).getInt(null);
            due(refusal + " is told", readme.contains("| `" + refusal + "` | " + value + " |"), true);
        }
        due("NONE is told", readme.contains("`NONE` (" + OneManDesk.NONE + ")"), true);
    }

    static void tests(String readme) throws Exception {
        due(".ci/run is told", readme.contains("    .ci/run\n"), true);
        try (DirectoryStream<Path> tests = Files.newDirectoryStream(Path.of("src/test/java"), "*.java")) {
            for (Path test : tests) {
                String name = test.getFileName().toString().replace(".java", "");
                due(name + " is told", readme.contains("- `" + name + "`: "), true);
            }
        }
    }

    public static void main(String[] args) throws Exception {
        String readme = Files.readString(Path.of("README.md"));
        example(readme);
        calls(readme);
        refusals(readme);
        tests(readme);
        System.out.println(checks + " checks of README.md, " + wrong + " wrong");
        if (wrong != 0) System.exit(1);
    }
}
