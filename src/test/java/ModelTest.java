import java.util.ArrayList;
import java.util.List;

/**
 * Long runs of calls, the same each time, put to a TubeChain and to a slow model of the document that is
 * written another way: every answer has to be the same.
 */
public final class ModelTest {
    private static final int RUNS = 40;
    private static final int CALLS = 500;

    public static void main(String[] args) {
        int wrong = 0;
        for (int run = 1; run <= RUNS && wrong < 5; run++) {
            wrong += new Run(run).go() ? 0 : 1;
        }
        wrong += faultsOfAllShortEnds();
        System.out.println(wrong == 0 ? "model: all runs agree" : "model: " + wrong + " runs differ");
        if (wrong != 0) {
            System.exit(1);
        }
    }

    /** Texts cut and changed at every place: the FAULT must be where no completion is left. */
    private static int faultsOfAllShortEnds() {
        String[] good = {
            "slow 4 l>2;quick 2 m<2;rise 4;rest 2;pull 30",
            "quick 10 (m=1|!v>3&h<5)|!!(t=0);slow 9 k=6",
            "slow 1 ((((m<9))))&!!!!h=0|l>12",
            "rise 1;rest 2;pull 3;rise 1;rest 2;pull 3;rise 1;rest 2;pull 3;rise 1",
        };
        char[] signs = ";|&!()<=>mklhtv 0195sqrpiwe.x\0".toCharArray();
        int wrong = 0;
        for (String text : good) {
            for (int at = 0; at <= text.length(); at++) {
                wrong += faultAgrees(text.substring(0, at)) ? 0 : 1;
                for (char sign : signs) {
                    String head = text.substring(0, at) + sign;
                    wrong += faultAgrees(head) ? 0 : 1;
                    wrong += at == text.length() || faultAgrees(head + text.substring(at + 1)) ? 0 : 1;
                    wrong += faultAgrees(head + text.substring(at)) ? 0 : 1;
                }
            }
        }
        return wrong;
    }

    private static boolean faultAgrees(String text) {
        if (text.length() > 100) {
            return true;
        }
        TubeChain chain = new TubeChain();
        for (char sign : text.toCharArray()) {
            chain.feed(sign);
        }
        int want = Text.fault(text);
        int got = chain.scaffold();
        if (got != (want < 0 ? 0 : -10 - want)) {
            System.out.println("text «" + text + "» answered " + got + ", the model's FAULT is " + want);
            return false;
        }
        return true;
    }

    /** One run: an object, the model of one, and the calls so far. */
    static final class Run {
        final TubeChain chain = new TubeChain();
        final Model model = new Model();
        final StringBuilder calls = new StringBuilder();
        final int number;
        final boolean clean;
        long seed;
        String waiting = "";

        Run(int number) {
            this.number = number;
            this.clean = number % 2 == 0;
            seed = number * 7919L;
        }

        int below(int n) {
            seed = seed * 6364136223846793005L + 1442695040888963407L;
            return (int) ((seed >>> 33) % n);
        }

        /** Mostly from .. to; now and then beside it. */
        int near(int from, int to) {
            int odd = below(clean ? 60 : 25);
            if (odd == 0) {
                return from - 1;
            }
            if (odd == 1) {
                return to + 1;
            }
            if (odd == 2 && below(4) == 0) {
                return below(2) == 0 ? Integer.MIN_VALUE : Integer.MAX_VALUE;
            }
            return from + below(to - from + 1);
        }

        int beat() {
            return below(3) > 0 ? near(8, 30) : near(1, 99);
        }

        int someone() {
            return model.men.isEmpty() ? near(0, 5) : below(12) == 0 ? near(0, 5) : below(model.men.size());
        }

        boolean same(String call, long got, long want) {
            calls.append(call).append(" -> ").append(want).append('\n');
            if (got != want) {
                System.out.println("run " + number + ": " + call + " answered " + got + ", the model " + want);
                System.out.println(calls);
            }
            return got == want;
        }

        boolean go() {
            int most = number % 3 == 0 ? 4 : 6;
            for (int i = 0; i < CALLS; i++) {
                if (!step(i, most)) {
                    return false;
                }
            }
            return true;
        }

        boolean step(int i, int most) {
            if (!waiting.isEmpty()) {
                int sign = waiting.charAt(0);
                waiting = waiting.substring(1);
                if (!same("feed(" + sign + ")", chain.feed(sign), model.feed(sign))) {
                    return false;
                }
                return !waiting.isEmpty() || same("scaffold()", chain.scaffold(), model.scaffold());
            }
            if (i < 12 && i % 2 == 0 && model.men.size() < most) {
                int kind = near(0, 6);
                // with one who lets slip hardly anything is safe
                kind = kind == 5 && below(3) > 0 ? below(5) : kind;
                int v = near(0, 9);
                return same("man(" + kind + "," + v + ")", chain.man(kind, v), model.man(kind, v));
            }
            int k = below(46);
            if (k < 12) {
                return men(k);
            }
            if (k < 24) {
                return asked(k);
            }
            return k < 33 ? hand(k) : others(k);
        }

        boolean men(int k) {
            int m = someone();
            int a = near(0, 6);
            int b;
            switch (k) {
                case 0: case 1:
                    return same("of(" + m + "," + a + ")", chain.of(m, a), model.of(m, a));
                case 2:
                    b = below(3) == 0 ? near(0, 9999) : near(0, 60);
                    return same("held(" + m + "," + b + ")", chain.held(m, b), model.held(m, b));
                case 3:
                    a = near(0, 3);
                    b = near(0, 9);
                    return same("row(" + m + "," + a + "," + b + ")", chain.row(m, a, b), model.row(m, a, b));
                case 4:
                    a = below(2) == 0 || model.men.isEmpty() ? near(0, 5) : below(model.men.size());
                    return same("place(" + m + "," + a + ")", chain.place(m, a), model.place(m, a));
                case 5:
                    if (below(3) > 0) {
                        waiting = text();
                        return true;
                    }
                    a = near(0, 127);
                    return same("feed(" + a + ")", chain.feed(a), model.feed(a));
                case 6:
                    a = near(0, 17);
                    return same("told(" + a + ")", chain.told(a), model.told(a));
                case 7:
                    a = below(4) == 0 ? near(0, 9999) : near(0, 40);
                    return same("pause(" + a + ")", chain.pause(a), model.pause(a));
                case 8:
                    if (below(3) > 0 || number % 3 == 0) {
                        return true;
                    }
                    a = near(0, 6);
                    b = near(0, 9);
                    return same("man(" + a + "," + b + ")", chain.man(a, b), model.man(a, b));
                default:
                    a = beat();
                    return same("up(" + a + ")", chain.up(a), model.up(a));
            }
        }

        boolean asked(int k) {
            int n = near(1, 20);
            int b = beat();
            int w;
            switch (k) {
                case 12:
                    n = near(0, 30);
                    w = near(0, 3);
                    return same("on(" + n + "," + b + "," + w + ")", chain.on(n, b, w), model.on(n, b, w));
                case 13:
                    return same("safe(" + n + ")", chain.safe(n), model.safe(n));
                case 14:
                    w = near(0, 1);
                    return same("best(" + n + "," + w + ")", chain.best(n, w), model.best(n, w));
                case 15:
                    return same("slowest()", chain.slowest(), model.slowest());
                case 16:
                    n = near(1, 8);
                    w = near(-1, 3);
                    return same("order(" + n + "," + w + ")", chain.order(n, w), model.order(n, w));
                case 17:
                    n = near(1, 30);
                    w = someone();
                    return same("without(" + w + "," + n + "," + b + ")", chain.without(w, n, b), model.without(w, n, b));
                case 18:
                    n = near(1, 30);
                    return same("pulley(" + n + "," + b + ")", chain.pulley(n, b), model.pulley(n, b));
                case 19:
                    return same("from(" + b + ")", chain.from(b), model.from(b));
                case 20:
                    w = near(1, 60);
                    // a little too quick: then how often to rest hangs on n and r
                    if (n > 0 && n <= 20 && below(5) > 0) {
                        b = Math.max(1, model.safeOr(n, 60) - 1 - below(4));
                        w = 1 + below(60);
                    }
                    return same("rested(" + n + "," + b + "," + w + ")", chain.rested(n, b, w), model.rested(n, b, w));
                case 21:
                    n = near(1, 30);
                    return same("change(" + n + "," + b + ")", chain.change(n, b), model.change(n, b));
                case 22:
                    w = near(0, 1);
                    return same("odds(" + n + "," + b + "," + w + ")", chain.odds(n, b, w), model.odds(n, b, w));
                default:
                    w = near(0, 1);
                    return same("mean(" + n + "," + w + ")", chain.mean(n, w), model.mean(n, w));
            }
        }

        boolean hand(int k) {
            int b = beat();
            int a = below(2) == 0 ? near(0, 5) : near(-1, 19);
            boolean is = below(4) > 0;
            switch (k) {
                case 24: case 25:
                    return same("see(" + a + ")", chain.see(a), model.see(a));
                case 26:
                    return same("who(" + b + ")", chain.who(b), model.who(b));
                case 27: case 28:
                    return same("book(" + a + "," + is + ")", chain.book(a, is), model.book(a, is));
                case 29:
                    return same("looked(" + b + ")", chain.looked(b), model.looked(b));
                case 30:
                    if (below(2) == 0) {
                        return true;
                    }
                    return same("image()", chain.image(), model.image());
                case 31:
                    if (below(3) > 0) {
                        return true;
                    }
                    return same("undo()", chain.undo(), model.undo());
                default:
                    return whoAsAsked(b);
            }
        }

        /** What is SEEN is made what would fall, so that WHO has somebody to find. */
        boolean whoAsAsked(int b) {
            if (b < 1 || b > 99 || model.men.isEmpty()) {
                return true;
            }
            Model m = model.copy();
            m.men.get(below(m.men.size())).held += 40;
            List<Integer> fell = m.fellOf(20, b);
            boolean ok = same("see(-1)", chain.see(-1), model.see(-1));
            for (int tube : fell) {
                ok &= same("see(" + tube + ")", chain.see(tube), model.see(tube));
            }
            return ok && same("who(" + b + ")", chain.who(b), model.who(b));
        }

        boolean others(int k) {
            int t = near(0, 5);
            int i = near(0, 6);
            int o = near(0, 5);
            switch (k) {
                case 33: case 34:
                    return judge(t);
                case 35: {
                    int m = someone();
                    int a = near(0, 2);
                    int x = near(-50, 50);
                    return same("act(" + m + "," + a + "," + x + ")", chain.act(m, a, x), model.act(m, a, x));
                }
                case 36:
                    i = near(0, 13);
                    return same("trace(" + i + ")", chain.trace(i), model.trace(i));
                case 37: {
                    int m = someone();
                    return same("taken(" + m + "," + i + ")", chain.taken(m, i), model.taken(m, i));
                }
                case 38:
                    i = near(0, 5);
                    return same("count(" + i + ")", chain.count(i), model.count(i));
                case 39: case 40: {
                    int s = below(2) == 0 ? near(0, 1) : near(-1, 4);
                    int n = below(3) > 0 ? near(0, 9) : near(0, 60);
                    return same("tape(" + t + "," + s + "," + n + ")", chain.tape(t, s, n), model.tape(t, s, n));
                }
                case 41: case 42: {
                    long v = below(2) == 0 ? seed * 31 : below(1000) - 500;
                    return same("item(" + t + "," + i + "," + v + ")", chain.item(t, i, v), model.item(t, i, v));
                }
                case 43:
                    return same("read(" + t + "," + i + ")", chain.read(t, i), model.read(t, i));
                default: {
                    int j = near(0, 6);
                    int n = near(0, 5);
                    if (below(3) == 0) {
                        o = t;
                    }
                    return same("shift(" + t + "," + i + "," + o + "," + j + "," + n + ")",
                        chain.shift(t, i, o, j, n), model.shift(t, i, o, j, n));
                }
            }
        }

        /** A row of ints that tells FREE, often all of it, from some place on. */
        boolean judge(int t) {
            boolean ok = true;
            int from = below(3);
            if (below(3) > 0 && t >= 0 && t < 6) {
                int length = from + below(8);
                ok = same("tape(" + t + ",2," + length + ")", chain.tape(t, 2, length), model.tape(t, 2, length));
                for (int m = 0; m < model.men.size() && from + m < length; m++) {
                    int free = model.men.get(m).free + (below(12) == 0 ? 1 : 0);
                    ok &= same("item(" + t + "," + (from + m) + "," + free + ")",
                        chain.item(t, from + m, free), model.item(t, from + m, free));
                }
            }
            int i = below(5) == 0 ? near(0, 9) : from;
            return ok && same("judge(" + t + "," + i + ")", chain.judge(t, i), model.judge(t, i));
        }

        String text() {
            StringBuilder b = new StringBuilder();
            int clauses = below(9) == 0 ? 9 + below(3) : 1 + below(5);
            for (int c = 0; c < clauses; c++) {
                if (c > 0) {
                    b.append(';');
                }
                int word = below(9);
                if (word < 6) {
                    b.append(word < 4 ? "slow " : "quick ").append(below(clauses > 8 ? 9 : 15)).append(' ');
                    either(b, 0);
                } else {
                    b.append(word == 6 ? "rise " : word == 7 ? "rest " : "pull ").append(below(word == 8 ? 100 : 12));
                }
            }
            if (b.length() > 0 && below(5) == 0) {
                b.setCharAt(below(b.length()), ";|&!()<=>mklhtv 019sqrp".charAt(below(23)));
            }
            return b.length() > 100 ? b.substring(0, 100) : b.toString();
        }

        void either(StringBuilder b, int depth) {
            for (int n = 0; n < 3; n++) {
                one(b, depth);
                if (below(3) > 0) {
                    return;
                }
                b.append(below(2) == 0 ? '|' : '&');
            }
            one(b, depth);
        }

        void one(StringBuilder b, int depth) {
            int k = depth > 4 ? 9 : below(10);
            if (k == 0) {
                b.append('!');
                one(b, depth + 1);
            } else if (k == 1) {
                b.append('(');
                either(b, depth + 1);
                b.append(')');
            } else {
                b.append("mklhtvhhtt".charAt(below(10))).append("<=>".charAt(below(3))).append(below(below(4) == 0 ? 12 : 6));
            }
        }
    }

    /** The grammar, by rewriting: a text is one if it comes down to a single F; a FAULT is where no end fits. */
    static final class Text {
        private static final String[] ENDS = ends();

        static String[] ends() {
            List<String> all = new ArrayList<>();
            for (String whole : new String[] {"slow 1 m<1", "quick 1 m<1", "rise 1", "rest 1", "pull 1"}) {
                for (int i = 0; i <= whole.length(); i++) {
                    for (String closing : new String[] {"", ")", "))", ")))", "))))"}) {
                        String end = whole.substring(i) + closing;
                        if (!all.contains(end)) {
                            all.add(end);
                        }
                    }
                }
            }
            return all.toArray(new String[0]);
        }

        static int fault(String text) {
            for (int p = 0; p < text.length(); p++) {
                if (!begins(text.substring(0, p + 1))) {
                    return p;
                }
            }
            return isWhole(text) ? -1 : text.length();
        }

        static boolean begins(String head) {
            for (String end : ENDS) {
                if (isWhole(head + end)) {
                    return true;
                }
            }
            return false;
        }

        static boolean isWhole(String text) {
            String[] clauses = text.split(";", -1);
            if (clauses.length > 10) {
                return false;
            }
            for (String clause : clauses) {
                if (clause.matches("(rise|rest|pull) [0-9][0-9]?")) {
                    continue;
                }
                if (!clause.matches("(slow|quick) [0-9][0-9]? [^ ]+")) {
                    return false;
                }
                if (!isCondition(clause.substring(clause.lastIndexOf(' ') + 1))) {
                    return false;
                }
            }
            return true;
        }

        static boolean isCondition(String e) {
            if (e.indexOf('F') >= 0) {
                return false;
            }
            String rest = e.replaceAll("[mklhtv][<=>][0-9][0-9]?", "F");
            if (tooDeep(rest)) {
                return false;
            }
            String before;
            do {
                before = rest;
                rest = rest.replace("!F", "F").replace("(F)", "F").replace("F&F", "F").replace("F|F", "F");
            } while (!rest.equals(before));
            return rest.equals("F");
        }

        static boolean tooDeep(String e) {
            StringBuilder open = new StringBuilder();
            for (char c : e.toCharArray()) {
                if (c == '!' || c == '(') {
                    if (open.length() == 4) {
                        return true;
                    }
                    open.append(c);
                } else if (c == ')' || c == 'F') {
                    if (c == ')' && open.length() > 0) {
                        open.setLength(open.length() - 1);
                    }
                    while (open.length() > 0 && open.charAt(open.length() - 1) == '!') {
                        open.setLength(open.length() - 1);
                    }
                }
            }
            return false;
        }

        /** Whether a good E holds: split at the weakest sign outside of all (. */
        static boolean holds(String e, int[] letters) {
            for (char joint : new char[] {'|', '&'}) {
                int depth = 0;
                for (int i = 0; i < e.length(); i++) {
                    char c = e.charAt(i);
                    depth += c == '(' ? 1 : c == ')' ? -1 : 0;
                    if (c == joint && depth == 0) {
                        boolean left = holds(e.substring(0, i), letters);
                        boolean right = holds(e.substring(i + 1), letters);
                        return joint == '|' ? left || right : left && right;
                    }
                }
            }
            if (e.charAt(0) == '!') {
                return !holds(e.substring(1), letters);
            }
            if (e.charAt(0) == '(') {
                return holds(e.substring(1, e.length() - 1), letters);
            }
            int value = letters["mklhtv".indexOf(e.charAt(0))];
            int n = Integer.parseInt(e.substring(2));
            return e.charAt(1) == '<' ? value < n : e.charAt(1) == '=' ? value == n : value > n;
        }
    }

    static final class Guy {
        int kind;
        int v;
        int held;
        int free;
        int[] row = new int[4];

        Guy copy() {
            Guy g = new Guy();
            g.kind = kind;
            g.v = v;
            g.held = held;
            g.free = free;
            g.row = row.clone();
            return g;
        }
    }

    static final class Model {
        List<Guy> men = new ArrayList<>();
        List<Integer> line = new ArrayList<>();
        int tenth;
        int risen;
        int fallen;
        List<Integer> seen = new ArrayList<>();
        List<int[]> book = new ArrayList<>();
        String holding = "";
        // not of the image
        String text = "";
        int scaffolds;
        List<Integer> ran = new ArrayList<>();
        Model kept;
        int[] sorts = {-1, -1, -1, -1, -1, -1};
        long[][] tapes = new long[6][];
        boolean isReal = true;

        Model copy() {
            Model m = new Model();
            for (Guy g : men) {
                m.men.add(g.copy());
            }
            m.line.addAll(line);
            m.tenth = tenth;
            m.risen = risen;
            m.fallen = fallen;
            m.seen.addAll(seen);
            m.book.addAll(book);
            m.holding = holding;
            m.isReal = false;
            return m;
        }

        static boolean in(int x, int from, int to) {
            return x >= from && x <= to;
        }

        boolean isMan(int m) {
            return in(m, 0, men.size() - 1);
        }

        int last(String word, int without) {
            int n = without;
            for (String clause : holding.split(";")) {
                if (clause.startsWith(word)) {
                    n = Integer.parseInt(clause.substring(5));
                }
            }
            return n;
        }

        int rise() {
            return last("rise", 5);
        }

        int rest() {
            return last("rest", 3);
        }

        int pull() {
            return Math.max(1, last("pull", 40));
        }

        int pace(int m) {
            Guy g = men.get(m);
            int[] letters = {m, g.kind, line.indexOf(m), g.held % 10, Math.min(99, g.held / 10), g.v};
            int pace = 8;
            for (String clause : holding.split(";")) {
                String[] parts = clause.split(" ");
                if (parts.length == 3 && Text.holds(parts[2], letters)) {
                    pace += (parts[0].equals("slow") ? 1 : -1) * Integer.parseInt(parts[1]);
                }
            }
            return Math.max(1, pace);
        }

        int holds(int m) {
            Guy g = men.get(m);
            int pace = pace(m);
            int strong = Math.max(1, pace - g.v / 2);
            int[] by = {pace, strong, pace + 2, pace + g.held / 8, Math.max(1, strong / 2), pace + 2,
                pace + g.held / 8 + g.row[g.held % 4]};
            return by[g.kind];
        }

        /** A THROW. */
        int up1(int b) {
            int thrown = tenth;
            tenth += b;
            int when = thrown + rise();
            for (int m : line) {
                Guy g = men.get(m);
                if (when < g.free) {
                    fallen++;
                    return -10 - m;
                }
                if (g.kind == 5 && (g.held + 1) % (g.v + 2) == 0) {
                    take(g);
                    fallen++;
                    return -10 - m;
                }
                int holds = holds(m);
                take(g);
                g.free = when + holds + rest();
                when = when + holds + rise();
            }
            risen++;
            return when - thrown;
        }

        void take(Guy g) {
            g.held = isReal ? Math.min(9999, g.held + 1) : g.held + 1;
        }

        /** What each of n TUBES answers. */
        List<Integer> tubes(int n, int b) {
            Model m = copy();
            List<Integer> all = new ArrayList<>();
            for (int i = 0; i < n; i++) {
                all.add(m.up1(b));
            }
            return all;
        }

        int ups(int n, int b) {
            int ups = 0;
            for (int took : tubes(n, b)) {
                ups += took >= 0 ? 1 : 0;
            }
            return ups;
        }

        int latest(int n, int b) {
            int latest = 0;
            List<Integer> all = tubes(n, b);
            for (int i = 0; i < n; i++) {
                if (all.get(i) >= 0) {
                    latest = Math.max(latest, i * b + all.get(i));
                }
            }
            return latest;
        }

        List<Integer> fellOf(int n, int b) {
            List<Integer> fell = new ArrayList<>();
            List<Integer> all = tubes(n, b);
            for (int i = 0; i < n; i++) {
                if (all.get(i) < 0) {
                    fell.add(i);
                }
            }
            return fell;
        }

        int man(int kind, int v) {
            if (!in(kind, 0, 6)) {
                return -1;
            }
            if (!in(v, 0, 9)) {
                return -2;
            }
            if (men.size() == 6) {
                return -4;
            }
            Guy g = new Guy();
            g.kind = kind;
            g.v = v;
            line.add(men.size());
            men.add(g);
            return men.size() - 1;
        }

        int of(int m, int what) {
            if (!isMan(m) || !in(what, 0, 6)) {
                return -1;
            }
            Guy g = men.get(m);
            return new int[] {g.kind, g.v, g.held, g.free, line.indexOf(m), pace(m), holds(m)}[what];
        }

        int held(int m, int n) {
            if (!isMan(m)) {
                return -1;
            }
            if (!in(n, 0, 9999)) {
                return -2;
            }
            int was = men.get(m).held;
            men.get(m).held = n;
            return was;
        }

        int row(int m, int part, int n) {
            if (!isMan(m) || !in(part, 0, 3)) {
                return -1;
            }
            if (!in(n, 0, 9)) {
                return -2;
            }
            if (men.get(m).kind != 6) {
                return -3;
            }
            int was = men.get(m).row[part];
            men.get(m).row[part] = n;
            return was;
        }

        int place(int m, int k) {
            if (!isMan(m) || !isMan(k)) {
                return -1;
            }
            int was = line.indexOf(m);
            line.remove(Integer.valueOf(m));
            line.add(k, m);
            return was;
        }

        int feed(int sign) {
            if (!in(sign, 0, 127)) {
                return -2;
            }
            if (text.length() == 100) {
                return -4;
            }
            text += (char) sign;
            return text.length();
        }

        int scaffold() {
            if (scaffolds == 6) {
                return -4;
            }
            String read = text;
            text = "";
            int fault = Text.fault(read);
            if (fault >= 0) {
                return -10 - fault;
            }
            holding = read;
            return scaffolds++;
        }

        int told(int what) {
            if (in(what, 10, 9 + line.size())) {
                return line.get(what - 10);
            }
            return in(what, 0, 5) ? new int[] {tenth, risen, fallen, rise(), rest(), pull()}[what] : -1;
        }

        int up(int b) {
            if (!in(b, 1, 99)) {
                return -2;
            }
            if (tenth + b > 999999 || risen == 9999 || fallen == 9999) {
                return -3;
            }
            return up1(b);
        }

        int pause(int n) {
            if (!in(n, 0, 9999)) {
                return -2;
            }
            if (tenth + n > 999999) {
                return -3;
            }
            return tenth += n;
        }

        int on(int n, int b, int what) {
            if (!in(what, 0, 3)) {
                return -1;
            }
            if (!in(n, 0, 30) || !in(b, 1, 99)) {
                return -2;
            }
            int[] by = new int[6];
            for (int took : tubes(n, b)) {
                if (took < 0) {
                    by[-10 - took]++;
                }
            }
            int who = 0;
            for (int m = 0; m < 6; m++) {
                who = by[m] > by[who] ? m : who;
            }
            return new int[] {ups(n, b), latest(n, b), by[who] == 0 ? -5 : who, by[who]}[what];
        }

        int safeOr(int n, int none) {
            for (int b = 1; b <= 99; b++) {
                if (ups(n, b) == n) {
                    return b;
                }
            }
            return none;
        }

        int safe(int n) {
            return in(n, 1, 20) ? safeOr(n, -5) : -2;
        }

        int best(int n, int what) {
            if (!in(what, 0, 1)) {
                return -1;
            }
            if (!in(n, 1, 20)) {
                return -2;
            }
            int best = 1;
            for (int b = 2; b <= 99; b++) {
                int more = ups(n, b) - ups(n, best);
                if (more > 0 || more == 0 && latest(n, b) < latest(n, best)) {
                    best = b;
                }
            }
            return what == 0 ? best : ups(n, best);
        }

        int slowest() {
            int who = -5;
            for (int m : line) {
                if (who < 0 || holds(m) > holds(who)) {
                    who = m;
                }
            }
            return who;
        }

        int order(int n, int k) {
            if (!in(k, -1, 3)) {
                return -1;
            }
            if (!in(n, 1, 8)) {
                return -2;
            }
            if (men.size() > 4) {
                return -9;
            }
            List<List<Integer>> rows = new ArrayList<>();
            rowsFrom(new ArrayList<>(), rows);
            List<Integer> bestRow = null;
            int least = 101;
            for (List<Integer> row : rows) {
                Model m = copy();
                m.line = row;
                int safe = m.safeOr(n, 100);
                if (safe < least) {
                    least = safe;
                    bestRow = row;
                }
            }
            if (k < 0) {
                return least == 100 ? -5 : least;
            }
            return k < bestRow.size() ? bestRow.get(k) : -5;
        }

        void rowsFrom(List<Integer> head, List<List<Integer>> rows) {
            if (head.size() == men.size()) {
                rows.add(head);
            }
            for (int m = 0; m < men.size(); m++) {
                if (!head.contains(m)) {
                    List<Integer> longer = new ArrayList<>(head);
                    longer.add(m);
                    rowsFrom(longer, rows);
                }
            }
        }

        int without(int man, int n, int b) {
            if (!isMan(man)) {
                return -1;
            }
            if (!in(n, 1, 30) || !in(b, 1, 99)) {
                return -2;
            }
            Model m = copy();
            m.line.remove(Integer.valueOf(man));
            return m.ups(n, b);
        }

        int pulley(int n, int b) {
            if (!in(n, 1, 30) || !in(b, 1, 99)) {
                return -100002;
            }
            return ups(n, b) < n ? -100001 : n * pull() + rise() * men.size() - latest(n, b);
        }

        int from(int b) {
            if (!in(b, 1, 99)) {
                return -2;
            }
            for (int n = 1; n <= 30; n++) {
                if (ups(n, b) == n && pulley(n, b) > 0) {
                    return n;
                }
            }
            return -5;
        }

        int rested(int n, int b, int r) {
            if (!in(n, 1, 20) || !in(b, 1, 99) || !in(r, 1, 60)) {
                return -2;
            }
            int greatest = -5;
            for (int j = 1; j <= 20; j++) {
                Model m = copy();
                for (int i = 1; i <= n; i++) {
                    m.up1(b);
                    m.tenth += i % j == 0 ? r : 0;
                }
                greatest = m.fallen == fallen ? j : greatest;
            }
            return greatest;
        }

        int change(int n, int b) {
            if (!in(n, 1, 30) || !in(b, 1, 99)) {
                return -2;
            }
            int most = ups(n, b);
            int places = -5;
            for (int p = 0; p < line.size(); p++) {
                for (int q = p + 1; q < line.size(); q++) {
                    Model m = copy();
                    m.line.set(p, line.get(q));
                    m.line.set(q, line.get(p));
                    if (m.ups(n, b) > most) {
                        most = m.ups(n, b);
                        places = 10 * p + q;
                    }
                }
            }
            return places;
        }

        int see(int tube) {
            if (!in(tube, -1, 19)) {
                return -2;
            }
            if (tube < 0) {
                seen.clear();
            } else if (seen.size() == 6) {
                return -4;
            } else {
                seen.add(tube);
            }
            return seen.size();
        }

        int who(int b) {
            if (!in(b, 1, 99)) {
                return -2;
            }
            int bits = 0;
            for (int man = 0; man < men.size(); man++) {
                Model m = copy();
                m.men.get(man).held += 40;
                List<Integer> fell = m.fellOf(20, b);
                if (fell.containsAll(seen) && seen.containsAll(fell)) {
                    bits += 1 << man;
                }
            }
            return bits;
        }

        static long fraction(int above, int below, int part) {
            int a = above;
            int b = below;
            while (b != 0) {
                int c = a % b;
                a = b;
                b = c;
            }
            return part == 0 ? above / a : below / a;
        }

        long odds(int n, int b, int part) {
            if (!in(n, 1, 20) || !in(b, 1, 99) || !in(part, 0, 1) || men.isEmpty()) {
                return Long.MIN_VALUE;
            }
            int good = 0;
            for (int man = 0; man < men.size(); man++) {
                Model m = copy();
                m.men.get(man).held += 40;
                good += m.ups(n, b) == n ? 1 : 0;
            }
            return fraction(good, men.size(), part);
        }

        long mean(int n, int part) {
            if (!in(n, 1, 20) || !in(part, 0, 1)) {
                return Long.MIN_VALUE;
            }
            int sum = 0;
            for (int b = 1; b <= 20; b++) {
                sum += ups(n, b);
            }
            return fraction(sum, 20, part);
        }

        int book(int tube, boolean isUp) {
            if (!in(tube, -1, 19)) {
                return -2;
            }
            if (tube < 0) {
                book.clear();
            } else if (book.size() == 8) {
                return -4;
            } else {
                book.add(new int[] {tube, isUp ? 1 : 0});
            }
            return book.size();
        }

        int looked(int b) {
            if (!in(b, 1, 99)) {
                return -2;
            }
            List<Integer> all = tubes(20, b);
            for (int i = 0; i < book.size(); i++) {
                if ((all.get(book.get(i)[0]) >= 0) != (book.get(i)[1] == 1)) {
                    return i;
                }
            }
            return -5;
        }

        int judge(int t, int i) {
            if (!in(t, 0, 5)) {
                return -1;
            }
            if (sorts[t] != -1 && sorts[t] != 2) {
                return -12;
            }
            for (int m = 0; m < men.size(); m++) {
                if (i < 0 || tapes[t] == null || i > tapes[t].length - 1 - m) {
                    return 100 + m;
                }
                if (tapes[t][i + m] != men.get(m).free) {
                    return m;
                }
            }
            return -5;
        }

        int image() {
            kept = copy();
            return men.size();
        }

        int undo() {
            if (kept == null) {
                return -3;
            }
            Model m = kept.copy();
            men = m.men;
            line = m.line;
            tenth = m.tenth;
            risen = m.risen;
            fallen = m.fallen;
            seen = m.seen;
            book = m.book;
            holding = m.holding;
            return men.size();
        }

        int act(int man, int act, int x) {
            ran.clear();
            if (!isMan(man) || !in(act, 0, 2)) {
                return 0;
            }
            return body(man, men.get(man).kind, act, x);
        }

        static final int[] ABOVE = {-1, 0, 0, 0, 1, 2, 3};
        /** The body by KIND and act; 0: none. */
        static final int[][] BODIES = {{10, 11, 12}, {0, 20, 0}, {30, 0, 0}, {0, 0, 40}, {50, 51, 0}, {0, 0, 60}, {71, 70, 0}};

        int body(int man, int from, int act, int x) {
            int k = from;
            while (BODIES[k][act] == 0) {
                k = ABOVE[k];
            }
            int body = BODIES[k][act];
            ran.add(body);
            int self = men.get(man).kind;
            int v = men.get(man).v;
            int above = ABOVE[k];
            switch (body) {
                case 10: return x + man;
                case 11: return body(man, self, 0, x) - v;
                case 12: return body(man, self, 1, x) * 2;
                case 20: return body(man, above, 1, x) ^ 6;
                case 30: return body(man, above, 0, x * 3);
                case 40: {
                    int left = body(man, above, 2, x);
                    return left + body(man, self, 1, 1);
                }
                case 50: return -body(man, above, 0, x);
                case 51: return body(man, above, 1, x + 1);
                case 60: return body(man, above, 2, x - man);
                case 70: {
                    int left = body(man, above, 1, x);
                    return left + body(man, above, 0, 2);
                }
                default: return body(man, above, 0, x) ^ v;
            }
        }

        int trace(int i) {
            return in(i, 0, Math.min(20, ran.size()) - 1) ? ran.get(i) : -1;
        }

        int taken(int man, int k) {
            if (!in(k, 0, 6)) {
                return -2;
            }
            if (!isMan(man)) {
                return -11;
            }
            for (int kind = men.get(man).kind; kind >= 0; kind = ABOVE[kind]) {
                if (kind == k) {
                    return men.get(man).kind;
                }
            }
            return -12;
        }

        int count(int what) {
            if (!in(what, 0, 5)) {
                return -2;
            }
            return new int[] {men.size(), scaffolds, seen.size(), book.size(), text.length(), ran.size()}[what];
        }

        int tape(int t, int sort, int n) {
            if (!in(t, 0, 5)) {
                return -1;
            }
            if (!in(sort, -1, 4) || sort >= 0 && n > 60) {
                return -2;
            }
            if (sort >= 0 && n < 0) {
                return -14;
            }
            sorts[t] = sort;
            tapes[t] = sort < 0 ? null : new long[n];
            return 1;
        }

        int item(int t, int i, long v) {
            if (!in(t, 0, 5)) {
                return -1;
            }
            if (tapes[t] == null) {
                return -11;
            }
            if (!in(i, 0, tapes[t].length - 1)) {
                return -13;
            }
            long one = v == 0 ? 0 : 1;
            tapes[t][i] = new long[] {(byte) v, (short) v, (int) v, v, one}[sorts[t]];
            return 1;
        }

        long read(int t, int i) {
            if (!in(t, 0, 5) || tapes[t] == null || !in(i, 0, tapes[t].length - 1)) {
                return Long.MIN_VALUE;
            }
            return tapes[t][i];
        }

        int shift(int t, int i, int o, int j, int n) {
            if (!in(t, 0, 5) || !in(o, 0, 5)) {
                return -1;
            }
            if (tapes[t] == null || tapes[o] == null) {
                return -11;
            }
            if (sorts[t] != sorts[o]) {
                return -12;
            }
            if (n < 0 || i < 0 || j < 0 || n > tapes[t].length - i || n > tapes[o].length - j) {
                return -13;
            }
            long[] before = tapes[t].clone();
            for (int a = 0; a < n; a++) {
                tapes[o][j + a] = before[i + a];
            }
            return n;
        }
    }
}
