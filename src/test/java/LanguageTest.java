import java.io.IOException;
import java.lang.management.ManagementFactory;
import java.lang.reflect.Constructor;
import java.lang.reflect.Field;
import java.lang.reflect.InvocationTargetException;
import java.lang.reflect.Method;
import java.lang.reflect.Modifier;
import java.nio.file.Files;
import java.nio.file.Path;
import java.util.ArrayList;
import java.util.List;
import java.util.TreeSet;
import java.util.regex.Matcher;
import java.util.regex.Pattern;

/** What of ../shared/LANGUAGE.md can be looked at from outside; runs in the project's folder. */
public final class LanguageTest {
    private static final String FACE = "act(int,int,int)int best(int,int)int book(int,boolean)int change(int,int)int count(int)int "
        + "feed(int)int from(int)int held(int,int)int image()int item(int,int,long)int judge(int,int)int looked(int)int "
        + "man(int,int)int mean(int,int)long odds(int,int,int)long of(int,int)int on(int,int,int)int order(int,int)int "
        + "pause(int)int place(int,int)int pulley(int,int)int read(int,int)long rested(int,int,int)int row(int,int,int)int "
        + "safe(int)int scaffold()int see(int)int shift(int,int,int,int,int)int slowest()int taken(int,int)int "
        + "tape(int,int,int)int told(int)int trace(int)int undo()int up(int)int who(int)int without(int,int,int)int";
    private static int wrong = 0;

    public static void main(String[] args) throws Exception {
        face();
        fieldsAndNames();
        words();
        sizes();
        wildCalls();
        room();
        System.out.println(wrong == 0 ? "language: the rules are kept" : wrong + " rules are broken");
        if (wrong != 0) {
            System.exit(1);
        }
    }

    private static void must(boolean so, String what) {
        if (!so) {
            wrong++;
            System.out.println("language: " + what);
        }
    }

    private static List<Class<?>> classes() {
        List<Class<?>> all = new ArrayList<>();
        all.add(TubeChain.class);
        for (Class<?> inside : TubeChain.class.getDeclaredClasses()) {
            all.add(inside);
        }
        return all;
    }

    private static void face() {
        must(Modifier.isPublic(TubeChain.class.getModifiers()) && Modifier.isFinal(TubeChain.class.getModifiers()),
            "rule 1: the class is public and final");
        TreeSet<String> methods = new TreeSet<>();
        for (Method m : TubeChain.class.getDeclaredMethods()) {
            if (Modifier.isPrivate(m.getModifiers())) {
                continue;
            }
            must(Modifier.isPublic(m.getModifiers()) && !Modifier.isStatic(m.getModifiers()), "rule 1: " + m);
            StringBuilder b = new StringBuilder(m.getName()).append('(');
            for (Class<?> type : m.getParameterTypes()) {
                b.append(b.charAt(b.length() - 1) == '(' ? "" : ",").append(type.getName());
            }
            methods.add(b.append(')').append(m.getReturnType().getName()).toString());
        }
        must(String.join(" ", methods).equals(FACE), "rule 1: the face is " + methods);
        Constructor<?>[] constructors = TubeChain.class.getDeclaredConstructors();
        must(constructors.length == 1 && constructors[0].getParameterCount() == 0
            && Modifier.isPublic(constructors[0].getModifiers()), "rule 1: one constructor");
        for (Class<?> inside : TubeChain.class.getDeclaredClasses()) {
            int how = inside.getModifiers();
            must(Modifier.isStatic(how) && !Modifier.isPublic(how) && !Modifier.isProtected(how), "rule 2: " + inside);
        }
    }

    private static void fieldsAndNames() {
        TreeSet<String> constants = new TreeSet<>();
        TreeSet<String> open = new TreeSet<>();
        for (Method m : TubeChain.class.getDeclaredMethods()) {
            if (Modifier.isPublic(m.getModifiers())) {
                open.add(m.getName());
            }
        }
        for (Class<?> c : classes()) {
            int own = 0;
            for (Field f : c.getDeclaredFields()) {
                boolean isStatic = Modifier.isStatic(f.getModifiers());
                must(!isStatic || Modifier.isFinal(f.getModifiers()), "rule 5: " + f);
                own += isStatic ? 0 : 1;
                if (c == TubeChain.class && !Modifier.isPrivate(f.getModifiers())) {
                    constants.add(f.getName());
                }
            }
            must(own <= 20, "rule 11: fields of " + c);
            for (Method m : c.getDeclaredMethods()) {
                must(m.getParameterCount() <= 7, "rule 11: parameters of " + m);
                must(Modifier.isPublic(m.getModifiers()) || !open.contains(m.getName()), "rule 1: the name of " + m);
            }
        }
        must(constants.toString().equals("[BAD, FULL, NO, NONE, STATE]"), "rule 1: constants " + constants);
        must(classes().size() <= 12, "rule 11: classes");
    }

    private static String source() throws IOException {
        return Files.readString(Path.of("src/main/java/TubeChain.java"));
    }

    private static String withoutComments(String source) {
        return source.replaceAll("(?s)/\\*.*?\\*/", "").replaceAll("//[^\n]*", "");
    }

    private static void words() throws IOException {
        String source = source();
        must(source.chars().allMatch(c -> c < 127), "rule 4: signs");
        String code = withoutComments(source).replaceAll("\"[^\"\n]*\"", "TEXT").replaceAll("'[^'\n]*'", "SIGN");
        String banned = "\\b(throw|throws|try|catch|finally|synchronized|assert|volatile|transient|native|goto|var|yield"
            + "|package|hashCode|toString|equals|System\\.(?!arraycopy)|Thread|Random|Exact|super\\.(equals|clone))\\b"
            + "|->|::|@|TEXT *\\+|\\+ *TEXT|new +\\w+ *\\([^)]*\\) *\\{";
        Matcher m = Pattern.compile(banned).matcher(code);
        while (m.find()) {
            must(false, "rules 2, 4, 6, 10: «" + m.group() + "»");
        }
        Matcher imports = Pattern.compile("import ([\\w.]+);").matcher(code);
        while (imports.find()) {
            must(imports.group(1).matches("java\\.util\\.(Arrays|ArrayList|List|Iterator)"), "rule 4: " + imports.group());
        }
        Matcher calls = Pattern.compile("\\b(Math|Arrays|Integer|Long|System)\\.(\\w+)").matcher(code);
        while (calls.find()) {
            must(calls.group(2).matches("max|min|fill|arraycopy|MIN_VALUE"), "rule 4: " + calls.group());
        }
    }

    /** A method is what stands at eight or four blanks and has a brace behind its parameters. */
    private static void sizes() throws IOException {
        String[] lines = source().split("\n");
        int found = 0;
        for (int i = 0; i < lines.length; i++) {
            Matcher head = Pattern.compile("^( {4}| {8})(?!if|for|while|switch)\\w[\\w\\[\\]<> ]*\\([^)]*\\) \\{$").matcher(lines[i]);
            if (!head.find()) {
                continue;
            }
            found++;
            int end = i;
            while (end < lines.length && !lines[end].equals(head.group(1) + "}")) {
                end++;
            }
            must(end - i < 60, "rule 11: the method at line " + (i + 1) + " has " + (end - i + 1) + " lines");
        }
        must(found > 100, "the look at methods has found only " + found);
    }

    /** Rule 7: whatever the arguments and the state are, the machine itself never throws. */
    private static void wildCalls() throws IllegalAccessException {
        Method[] methods = TubeChain.class.getDeclaredMethods();
        List<Method> open = new ArrayList<>();
        for (Method m : methods) {
            if (Modifier.isPublic(m.getModifiers())) {
                open.add(m);
            }
        }
        open.sort((a, b) -> a.getName().compareTo(b.getName()));
        long seed = 77;
        for (int run = 0; run < 600; run++) {
            TubeChain x = new TubeChain();
            for (int i = 0; i < 512; i++) {
                seed = seed * 6364136223846793005L + 1442695040888963407L;
                Method m = open.get((int) ((seed >>> 33) % open.size()));
                Object[] given = new Object[m.getParameterCount()];
                for (int p = 0; p < given.length; p++) {
                    seed = seed * 6364136223846793005L + 1442695040888963407L;
                    given[p] = wild(m.getParameterTypes()[p], seed >>> 20);
                }
                try {
                    m.invoke(x, given);
                } catch (InvocationTargetException e) {
                    must(false, "rule 7: " + m + " in run " + run + " threw " + e.getCause());
                    return;
                }
            }
        }
    }

    private static Object wild(Class<?> type, long bits) {
        if (type == boolean.class) {
            return bits % 2 == 0;
        }
        long[] edges = {Integer.MIN_VALUE, Integer.MAX_VALUE, Integer.MIN_VALUE + 1, Integer.MAX_VALUE - 5, -1, 0, 60, 100, 127};
        long value = bits % 40 == 0 ? edges[(int) (bits / 40 % edges.length)] : bits % 3 == 0 ? bits / 40 % 32 : bits / 40 % 6;
        if (type == long.class) {
            return bits % 7 == 0 ? Long.MIN_VALUE : value;
        }
        return (int) value;
    }

    /** Rule 12 and the room of a run: an object and 512 dear calls stay far below what there is. */
    private static void room() {
        com.sun.management.ThreadMXBean threads =
            (com.sun.management.ThreadMXBean) ManagementFactory.getThreadMXBean();
        dearCalls(new TubeChain());
        long before = threads.getCurrentThreadAllocatedBytes();
        TubeChain x = new TubeChain();
        long made = threads.getCurrentThreadAllocatedBytes();
        dearCalls(x);
        long after = threads.getCurrentThreadAllocatedBytes();
        must(made - before < 32_000, "rule 12: a new object takes " + (made - before) + " bytes");
        must(after - made < 64_000, "rule 12: its calls take " + (after - made) + " bytes");
    }

    private static void dearCalls(TubeChain x) {
        for (int i = 0; i < 4; i++) {
            x.man(i + 3, 2);
        }
        for (char sign : "slow 3 l>1&h<5;rest 1".toCharArray()) {
            x.feed(sign);
        }
        x.scaffold();
        for (int i = 0; i < 30; i++) {
            x.order(8, 0);
            x.best(20, 0);
            x.change(30, 14);
            x.rested(20, 14, 3);
            x.mean(20, 1);
            x.who(14);
            x.odds(20, 14, 0);
            x.from(30);
            x.up(14);
            x.image();
            x.undo();
            x.act(0, 2, i);
            x.tape(1, 3, 60);
            x.feed('x');
            x.scaffold();
        }
    }
}
