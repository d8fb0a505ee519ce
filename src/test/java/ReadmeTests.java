import java.lang.reflect.Method;
import java.lang.reflect.Modifier;
import java.nio.charset.StandardCharsets;
import java.nio.file.Files;
import java.nio.file.Path;
import java.util.HashMap;
import java.util.HashSet;
import java.util.List;
import java.util.Map;
import java.util.Set;
import java.util.TreeSet;
import java.util.regex.Matcher;
import java.util.regex.Pattern;
import java.util.stream.Collectors;
import java.util.stream.Stream;

/** What README.md says of the class and of its tests is so. */
public final class ReadmeTests {
    private static final Map<String, Method> FACE = new HashMap<>();
    private static int wrong;
    private static int asked;

    private static void hold(boolean holds, String what) {
        asked++;
        if (!holds) {
            wrong++;
            System.out.println("README.md: " + what);
        }
    }

    // README's own way of feeding a text, word for word.
    static void feed(DeskMoves x, String s) {
        for (int i = 0; i < s.length(); i += 4) {
            int four = 0;
            for (int k = i; k < i + 4; k++) {
                four = four << 8 | (k < s.length() ? s.charAt(k) & 255 : 0);
            }
            x.feed(four, 0, 0, 0, 0);
        }
    }

    private static void exampleIsSo(String page) throws Exception {
        DeskMoves x = new DeskMoves();
        int answers = 0;
        Matcher block = Pattern.compile("```java\nDeskMoves x(.*?)```", Pattern.DOTALL).matcher(page);
        hold(block.find(), "it has an example");
        for (String line : block.group(1).split("\n")) {
            Matcher fed = Pattern.compile("feed\\(x, \"(.*)\"\\);").matcher(line);
            Matcher call = Pattern.compile("x\\.(\\w+)\\((.*?)\\);\\s+// (-?\\d+|true|false)\\b.*").matcher(line);
            if (fed.matches()) {
                feed(x, fed.group(1));
            } else if (call.matches()) {
                Object got = FACE.get(call.group(1)).invoke(x, numbers(call.group(2)));
                hold(got.toString().equals(call.group(3)), line.strip() + " answered " + got);
                answers++;
            } else {
                hold(line.isBlank() || line.strip().startsWith("= new"), "a line that is no call: " + line);
            }
        }
        hold(answers > 25, "the example has answers");
    }

    private static Object[] numbers(String list) {
        return list.isBlank() ? new Object[0] : Stream.of(list.split(", ")).map(Integer::valueOf).toArray();
    }

    /** The example of a law in the table of texts. */
    private static void lawIsSo(String page) {
        hold(page.contains("`y:q>0?0;y:9-l*p`"), "it has an example of a law");
        DeskMoves x = new DeskMoves();
        feed(x, "AB.C;ab,bc2,cd,da;AB");
        hold(x.text(0) == 4 && x.quarrel(0, 1) == 1 && x.door(1, 2) == 2 && x.desk(2) == -1 && x.desk(3) == 2, "its office");
        feed(x, "y:q>0?0;y:9-l*p");
        hold(x.text(1) == 0 && x.law(0) && x.let(1, 2) == 1, "its law");
        x.set(1, 1, 4);
        hold(x.let(1, 2) == 1, "a cost of 8");
        x.set(1, 1, 5);
        hold(x.let(1, 2) == 0, "a cost of 10");
        x.set(1, 1, 1);
        x.move(2, 2);
        hold(x.let(0, 3) == 1, "A beside C alone");
        x.undo();
        x.move(1, 2);
        hold(x.let(0, 1) == 0, "A beside B");
        feed(x, "Bc,Ab");
        hold(x.text(2) == 2, "its plan");
    }

    /** Each method of the face stands in the table with its number of arguments and its promise. */
    private static void tableIsWhole(String page, String document) {
        Set<String> named = new HashSet<>();
        Matcher row = Pattern.compile("(?m)^\\| (`\\w+\\(.*?) \\| ([0-9, ]+) \\|").matcher(page);
        while (row.find()) {
            String[] promises = row.group(2).split(", ");
            String[] calls = row.group(1).replace("`", "").split("(?<=\\)), ");
            hold(promises.length == calls.length, "a promise for each call: " + row.group());
            for (int i = 0; i < calls.length && i < promises.length; i++) {
                String name = calls[i].substring(0, calls[i].indexOf('('));
                String inner = calls[i].substring(name.length() + 1, calls[i].length() - 1);
                Method m = FACE.get(name);
                hold(m != null && m.getParameterCount() == (inner.isEmpty() ? 0 : inner.split(", ").length), "the call " + calls[i]);
                hold(document.contains("## Promise " + promises[i] + ": " + name + "\n"), "the promise of " + calls[i]);
                named.add(name);
            }
        }
        hold(named.equals(FACE.keySet()), "the table names " + new TreeSet<>(named));
    }

    private static void testsAreNamed(String page, Path tests) throws Exception {
        List<String> there;
        try (Stream<Path> files = Files.list(tests)) {
            there = files.map(f -> f.getFileName().toString().replace(".java", "")).sorted().collect(Collectors.toList());
        }
        Set<String> named = new TreeSet<>();
        Matcher row = Pattern.compile("(?m)^\\| `(\\w+Tests)` \\|").matcher(page);
        while (row.find()) {
            named.add(row.group(1));
        }
        hold(named.equals(new TreeSet<>(there)), "it names the tests " + named + ", there are " + there);
    }

    public static void main(String[] args) throws Exception {
        for (Method m : DeskMoves.class.getDeclaredMethods()) {
            if (Modifier.isPublic(m.getModifiers())) {
                FACE.put(m.getName(), m);
            }
        }
        Path source = Path.of(System.getProperty("deskmoves.source", "src/main/java/DeskMoves.java")).toAbsolutePath();
        Path root = source.resolve("../../../..").normalize();
        Path shared = Path.of(System.getProperty("deskmoves.shared", "../shared"));
        String page = Files.readString(root.resolve("README.md"), StandardCharsets.UTF_8);
        String document = Files.readString(shared.resolve("DOC.md"), StandardCharsets.UTF_8);
        String own = Files.readString(root.resolve("src/test/java/ReadmeTests.java"), StandardCharsets.UTF_8).replaceAll("(?m)^    ", "");
        Matcher way = Pattern.compile("```java\n(static void feed.*?)```", Pattern.DOTALL).matcher(page);
        hold(way.find() && own.contains(way.group(1)), "the way of feeding is the one that is tried here");
        exampleIsSo(page);
        lawIsSo(page);
        tableIsWhole(page, document);
        testsAreNamed(page, root.resolve("src/test/java"));
        System.out.println(asked + " sayings tried, " + wrong + " are not so");
        if (wrong != 0) {
            System.exit(1);
        }
    }
}
