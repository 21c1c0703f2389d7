import java.io.IOException;
import java.lang.reflect.Field;
import java.lang.reflect.Method;
import java.lang.reflect.Modifier;
import java.nio.file.Files;
import java.nio.file.Path;
import java.util.ArrayList;
import java.util.List;
import java.util.TreeSet;
import java.util.regex.Matcher;
import java.util.regex.Pattern;
import java.util.stream.Stream;

/** README.md against the class: what its page says of calls, answers and constants has to be so; runs in the project's folder. */
public final class ReadmeTest {
    private static final Pattern SHOWN = Pattern.compile("^chain\\.(\\w+)\\(([^)]*)\\); *// (-?\\d+)");
    private static final Pattern FED = Pattern.compile("\"([^\"]*)\"\\.toCharArray\\(\\)");
    private static final Pattern FED_SO_MANY = Pattern.compile("^    chain\\.feed\\(sign\\); *// (\\d+)");
    private static final Pattern ROW_OF_CALL = Pattern.compile("^\\| `(\\w+)\\(([^)]*)\\)` \\| .+ \\| ?.*\\|$");
    private static final Pattern ROW_OF_CONSTANT = Pattern.compile("^\\| `TubeChain\\.(\\w+)` \\| (-?\\d+) \\| .+ \\|$");
    private static int wrong = 0;

    public static void main(String[] args) throws Exception {
        List<String> lines = Files.readAllLines(Path.of("README.md"));
        example(lines);
        calls(lines);
        constants(lines);
        scaffoldShown(String.join(" ", lines));
        testsAreNamed(String.join("\n", lines));
        System.out.println(wrong == 0 ? "readme: the page is as the class" : wrong + " lines of the page are not so");
        if (wrong != 0) {
            System.exit(1);
        }
    }

    private static void must(boolean so, String what) {
        if (!so) {
            wrong++;
            System.out.println("readme: " + what);
        }
    }

    private static Method open(String name) {
        for (Method m : TubeChain.class.getDeclaredMethods()) {
            if (Modifier.isPublic(m.getModifiers()) && m.getName().equals(name)) {
                return m;
            }
        }
        return null;
    }

    private static String[] parts(String given) {
        return given.isEmpty() ? new String[0] : given.split(", ");
    }

    /** The example's calls, one behind the other on one object, each with the answer that stands behind it. */
    private static void example(List<String> lines) throws Exception {
        TubeChain chain = new TubeChain();
        int looked = 0;
        int fed = 0;
        for (String line : lines) {
            Matcher text = FED.matcher(line);
            if (text.find()) {
                for (char sign : text.group(1).toCharArray()) {
                    fed = chain.feed(sign);
                }
            }
            Matcher soMany = FED_SO_MANY.matcher(line);
            if (soMany.find()) {
                must(fed == Integer.parseInt(soMany.group(1)), "«" + line.trim() + "» answers " + fed);
            }
            Matcher shown = SHOWN.matcher(line);
            if (shown.find()) {
                looked++;
                long got = call(chain, shown.group(1), parts(shown.group(2)));
                must(got == Long.parseLong(shown.group(3)), "«" + line + "» answers " + got);
            }
        }
        must(looked >= 14, "the example has only " + looked + " calls");
    }

    private static long call(TubeChain chain, String name, String[] words) throws Exception {
        Method m = open(name);
        if (m == null || m.getParameterCount() != words.length) {
            must(false, "there is no call " + name + " of " + words.length);
            return 0;
        }
        Object[] given = new Object[words.length];
        for (int i = 0; i < words.length; i++) {
            given[i] = Integer.valueOf(words[i]);
        }
        return ((Number) m.invoke(chain, given)).longValue();
    }

    /** Each call of the class has one row, with as many words in its brackets as it takes. */
    private static void calls(List<String> lines) {
        List<String> rows = new ArrayList<>();
        for (String line : lines) {
            Matcher row = ROW_OF_CALL.matcher(line);
            if (row.find()) {
                Method m = open(row.group(1));
                must(m != null && m.getParameterCount() == parts(row.group(2)).length, "no such call: " + line);
                must(!rows.contains(row.group(1)), "a second row: " + line);
                rows.add(row.group(1));
            }
        }
        for (Method m : TubeChain.class.getDeclaredMethods()) {
            must(!Modifier.isPublic(m.getModifiers()) || rows.contains(m.getName()), "no row for " + m);
        }
        must(rows.size() == 37, "there are " + rows.size() + " rows of calls");
    }

    private static void constants(List<String> lines) throws IllegalAccessException {
        TreeSet<String> rows = new TreeSet<>();
        for (String line : lines) {
            Matcher row = ROW_OF_CONSTANT.matcher(line);
            if (row.find()) {
                rows.add(row.group(1) + " " + row.group(2));
            }
        }
        TreeSet<String> own = new TreeSet<>();
        for (Field f : TubeChain.class.getDeclaredFields()) {
            if (Modifier.isPublic(f.getModifiers())) {
                own.add(f.getName() + " " + ((Number) f.get(null)).longValue());
            }
        }
        must(rows.equals(own), "the constants are " + own + ", the page has " + rows);
    }

    /** The text that the page calls a scaffold's is one. */
    private static void scaffoldShown(String page) {
        Matcher text = Pattern.compile("Such a text is `([^`]+)`").matcher(page);
        if (!text.find()) {
            must(false, "no text of a scaffold is shown");
            return;
        }
        TubeChain chain = new TubeChain();
        for (char sign : text.group(1).toCharArray()) {
            chain.feed(sign);
        }
        must(chain.scaffold() == 0, "this is no scaffold: " + text.group(1));
    }

    private static void testsAreNamed(String page) throws IOException {
        try (Stream<Path> tests = Files.list(Path.of("src/test/java"))) {
            for (Path test : tests.toList()) {
                String name = test.getFileName().toString().replace(".java", "");
                must(page.contains("| `" + name + "` | "), "the page does not name " + name);
            }
        }
    }
}
