import java.nio.charset.StandardCharsets;
import java.nio.file.Files;
import java.nio.file.Path;
import java.util.Set;
import java.util.TreeSet;
import java.util.regex.Matcher;
import java.util.regex.Pattern;

/** What can be seen in the source's own lines of the rules in LANGUAGE.md. */
public final class LanguageTests {
    private static int wrong = 0;

    private static void hold(boolean holds, String what) {
        if (!holds) {
            wrong++;
            System.out.println("does not hold: " + what);
        }
    }

    private static void absent(String source, String pattern, String rule) {
        Matcher m = Pattern.compile(pattern).matcher(source);
        while (m.find()) {
            int line = source.substring(0, m.start()).split("\n", -1).length;
            hold(false, rule + ": line " + line + ": " + m.group());
        }
    }

    public static void main(String[] args) throws Exception {
        String path = System.getProperty("deskmoves.source", "src/main/java/DeskMoves.java");
        String whole = Files.readString(Path.of(path), StandardCharsets.ISO_8859_1);
        hold(whole.chars().allMatch(c -> c < 128), "signs below 128 alone");
        String source = withoutComments(whole);
        String bare = source.replaceAll("\"[^\"\n]*\"", "\"\"").replaceAll("'[^'\n]'", "' '");
        absent(bare, "\\bpackage\\b", "no package line");
        absent(bare, "->|::", "rule 2: no lambda, no method reference");
        absent(bare, "\\b(finally|synchronized|assert|volatile|transient|native|var)\\b", "rule 6");
        absent(bare, "\\bcatch\\b|\\btry\\b", "nothing is caught");
        absent(bare, "\\b(double|float|Object|HashMap|Random|Thread|Scanner)\\b", "rules 3 and 4");
        absent(bare, "System\\.(?!arraycopy\\b)", "rule 4");
        absent(bare, "Exact\\b", "rule 4");
        absent(bare, "\\.(hashCode|toString|equals|getClass)\\b", "rule 6");
        absent(bare, "static\\s*\\{", "rule 5: no static block");
        absent(bare, "while\\s*\\(\\s*true|for\\s*\\(\\s*;", "rule 9: every loop has an end");
        absent(bare, "throw new (?!NoSuchElementException\\(\\))", "rule 6: the one exception of the document");
        Set<String> imports = new TreeSet<>();
        Matcher m = Pattern.compile("import ([^;]+);").matcher(bare);
        while (m.find()) {
            imports.add(m.group(1));
        }
        imports.removeAll(Set.of("java.util.Arrays", "java.util.NoSuchElementException"));
        hold(imports.isEmpty(), "imports: " + imports);
        methodsAreShort(source);
        System.out.println(wrong == 0 ? "the source keeps to the rules that can be seen" : wrong + " do not hold");
        if (wrong != 0) {
            System.exit(1);
        }
    }

    private static String withoutComments(String s) {
        String rows = Pattern.compile("/\\*.*?\\*/", Pattern.DOTALL).matcher(s)
            .replaceAll(r -> r.group().replaceAll("[^\n]", ""));
        return rows.replaceAll("(?m)//.*$", "");
    }

    private static void methodsAreShort(String source) {
        String[] lines = source.split("\n", -1);
        for (int i = 0; i < lines.length; i++) {
            if (lines[i].matches("( {4}| {8})[A-Za-z].*\\)( throws \\w+)? \\{")) {
                String indent = lines[i].replaceAll("\\S.*", "");
                int end = i;
                while (end < lines.length && !lines[end].equals(indent + "}")) {
                    end++;
                }
                hold(end - i <= 60, "rule 11: a method of " + (end - i) + " lines at line " + (i + 1));
            }
        }
    }
}
