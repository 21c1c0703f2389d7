import java.util.ArrayList;
import java.util.List;
import java.util.function.ToLongFunction;

/**
 * What is refused changes nothing, and what is asked changes nothing. Each such call is made on an object of its own,
 * in a state where it is refused (or asked); a long row of further calls must then answer as it does without it.
 */
public final class RefusedTest {
    private static final int MIN = Integer.MIN_VALUE;
    private static final int MAX = Integer.MAX_VALUE;
    private static final long NO = Long.MIN_VALUE;
    private static final long ANY = 77_777_777_777L;
    private static int wrong = 0;
    private static int calls = 0;
    private static int state;
    private static List<Long> untouched;

    public static void main(String[] args) {
        for (state = 0; state < 4; state++) {
            untouched = lookAt(inState());
            refusedInEachState();
            asked();
        }
        state = 0;
        refusedWithNothingThere();
        state = 1;
        refusedInTheMiddle();
        state = 2;
        refusedWhenFull();
        state = 3;
        refusedAtTheEndOfTime();
        if (calls < 900) {
            wrong++;
            System.out.println("refused: only " + calls + " calls were made");
        }
        System.out.println(wrong == 0 ? "refused: " + calls + " calls change nothing" : wrong + " calls are not as due");
        if (wrong != 0) {
            System.exit(1);
        }
    }

    private static TubeChain inState() {
        switch (state) {
            case 0: return new TubeChain();
            case 1: return inTheMiddle();
            case 2: return full();
            default: return atTheEndOfTime();
        }
    }

    private static void feed(TubeChain x, String text) {
        for (char sign : text.toCharArray()) {
            x.feed(sign);
        }
    }

    private static TubeChain inTheMiddle() {
        TubeChain x = new TubeChain();
        x.man(3, 2);
        x.man(5, 1);
        x.man(6, 4);
        x.man(4, 9);
        x.place(3, 0);
        x.row(2, 1, 6);
        x.held(0, 13);
        feed(x, "slow 2 l=1|h>5;rest 2;rise 4;quick 1 t<3");
        x.scaffold();
        x.up(24);
        x.up(3);
        x.see(3);
        x.see(7);
        x.book(0, true);
        x.book(5, false);
        x.tape(0, 2, 4);
        x.tape(1, 0, 3);
        x.tape(2, 1, 3);
        x.tape(3, 3, 3);
        x.tape(4, 4, 3);
        for (int tape = 0; tape < 5; tape++) {
            x.item(tape, 1, 200 + tape);
        }
        x.image();
        x.up(17);
        x.held(1, 4);
        x.row(2, 3, 1);
        x.see(19);
        x.book(5, true);
        x.act(2, 2, 5);
        feed(x, "rest 9;slow 3 m=1");
        return x;
    }

    private static TubeChain full() {
        TubeChain x = new TubeChain();
        for (int kind = 6; kind > 0; kind--) {
            x.man(kind, kind + 2);
        }
        x.place(0, 4);
        x.row(0, 0, 9);
        x.held(5, 9999);
        x.held(3, 9998);
        for (int n = 0; n < 6; n++) {
            feed(x, "rise " + n + ";slow " + n + " h=" + n);
            x.scaffold();
        }
        x.image();
        for (int n = 0; n < 6; n++) {
            x.see(3 * n);
            x.tape(n, n % 5, 60);
            x.item(n, 59, 1000 + n);
        }
        for (int n = 0; n < 8; n++) {
            x.book(n, n % 3 > 0);
        }
        feed(x, "slow 10 m=1&m=1&m=1&m=1&m=1&m=1&m=1&m=1&m=1&m=1&m=1&m=1&m=1&m=1&m=1&m=1&m=1&m=1&m=1&m=1&m=1&m=1&m=11");
        x.up(30);
        x.up(1);
        x.act(0, 2, MAX);
        return x;
    }

    private static TubeChain atTheEndOfTime() {
        TubeChain x = new TubeChain();
        x.man(2, 3);
        x.man(3, 4);
        for (int n = 0; n < 100; n++) {
            x.pause(9999);
        }
        x.up(20);
        x.up(50);
        x.pause(28);
        x.see(1);
        x.book(1, true);
        feed(x, "rise 1;;");
        return x;
    }

    /** All that answers tell of how an object is; what is hidden shows by what goes on from it. */
    private static List<Long> lookAt(TubeChain x) {
        List<Long> answers = new ArrayList<>();
        lookAround(x, answers);
        for (int tape = 0; tape < 6; tape++) {
            for (int i : new int[] {0, 1, 2, 3, 58, 59, 60}) {
                answers.add(x.read(tape, i));
            }
            answers.add((long) x.item(tape, 0, 70_000L));
            answers.add(x.read(tape, 0));
        }
        for (int i = 0; i < 14; i++) {
            answers.add((long) x.trace(i));
        }
        answers.add((long) x.scaffold());
        answers.add((long) x.told(3));
        for (int man = 0; man < 6; man++) {
            answers.add((long) x.of(man, 5));
            answers.add((long) x.row(man, 0, 1));
            answers.add((long) x.row(man, 1, 1));
            answers.add((long) x.row(man, 3, 1));
        }
        answers.add((long) x.up(1));
        answers.add((long) x.undo());
        lookAround(x, answers);
        answers.add((long) x.scaffold());
        feed(x, "rise 1");
        answers.add((long) x.scaffold());
        answers.add((long) x.undo());
        answers.add((long) x.man(0, 0));
        return answers;
    }

    private static void lookAround(TubeChain x, List<Long> answers) {
        for (int what = 0; what < 6; what++) {
            answers.add((long) x.count(what));
            answers.add((long) x.told(what));
            answers.add((long) x.told(10 + what));
        }
        for (int man = 0; man < 6; man++) {
            for (int what : new int[] {0, 1, 2, 3, 6}) {
                answers.add((long) x.of(man, what));
            }
        }
        for (int b : new int[] {9, 14, 23, 99}) {
            answers.add((long) x.on(30, b, 0));
            answers.add((long) x.on(30, b, 1));
            answers.add((long) x.who(b));
            answers.add((long) x.looked(b));
        }
    }

    /** The call answers so (ANY: whatever), and all is as it was behind it. */
    private static void leaves(String call, ToLongFunction<TubeChain> made, long want) {
        calls++;
        TubeChain x = inState();
        long got = made.applyAsLong(x);
        if (want != ANY && got != want) {
            wrong++;
            System.out.println("state " + state + ": " + call + " answered " + got + ", due is " + want);
        }
        List<Long> behind = lookAt(x);
        for (int i = 0; i < behind.size(); i++) {
            if (!behind.get(i).equals(untouched.get(i))) {
                wrong++;
                System.out.println("state " + state + ": behind " + call + " look " + i + " answered " + behind.get(i) + ", not "
                    + untouched.get(i));
                return;
            }
        }
    }

    /** Where all MEN, all TAPES and so on are as they may be, these are refused all the same. */
    private static void refusedInEachState() {
        for (int n : new int[] {-1, 6, 7, MIN, MAX}) {
            leaves("of(" + n + ", 0)", x -> x.of(n, 0), -1);
            leaves("held(" + n + ", 1)", x -> x.held(n, 1), -1);
            leaves("held(" + n + ", -1)", x -> x.held(n, -1), -1);
            leaves("row(" + n + ", 0, 1)", x -> x.row(n, 0, 1), -1);
            leaves("place(" + n + ", 0)", x -> x.place(n, 0), -1);
            leaves("without(" + n + ", 1, 1)", x -> x.without(n, 1, 1), -1);
            leaves("taken(" + n + ", 0)", x -> x.taken(n, 0), -11);
            leaves("judge(" + n + ", 0)", x -> x.judge(n, 0), -1);
            leaves("tape(" + n + ", 0, 1)", x -> x.tape(n, 0, 1), -1);
            leaves("item(" + n + ", 0, 1)", x -> x.item(n, 0, 1), -1);
            leaves("read(" + n + ", 0)", x -> x.read(n, 0), NO);
            leaves("shift(" + n + ", 0, 0, 0, 1)", x -> x.shift(n, 0, 0, 0, 1), -1);
            leaves("shift(0, 0, " + n + ", 0, 1)", x -> x.shift(0, 0, n, 0, 1), -1);
            leaves("told(" + (n == 7 ? 9 : n == -1 ? -1 : n == 6 ? 6 : n) + ")", x -> x.told(n == 7 ? 9 : n), -1);
            leaves("of(0, " + (n == 6 ? 7 : n) + ")", x -> x.of(0, n == 6 ? 7 : n), -1);
            leaves("count(" + n + ")", x -> x.count(n), -2);
            leaves("taken(0, " + (n == 6 ? 7 : n) + ")", x -> x.taken(0, n == 6 ? 7 : n), -2);
            leaves("place(0, " + n + ")", x -> x.place(0, n), -1);
            leaves("row(0, " + n + ", 1)", x -> x.row(0, n, 1), -1);
        }
        for (int n : new int[] {-1, 0, 100, MIN, MAX}) {
            leaves("up(" + n + ")", x -> x.up(n), -2);
            leaves("on(1, " + n + ", 0)", x -> x.on(1, n, 0), -2);
            leaves("from(" + n + ")", x -> x.from(n), -2);
            leaves("pulley(1, " + n + ")", x -> x.pulley(1, n), -100002);
            leaves("change(1, " + n + ")", x -> x.change(1, n), -2);
            leaves("rested(1, " + n + ", 1)", x -> x.rested(1, n, 1), -2);
            leaves("rested(1, 1, " + n + ")", x -> x.rested(1, 1, n), -2);
            leaves("who(" + n + ")", x -> x.who(n), -2);
            leaves("looked(" + n + ")", x -> x.looked(n), -2);
            leaves("odds(1, " + n + ", 0)", x -> x.odds(1, n, 0), NO);
            leaves("safe(" + n + ")", x -> x.safe(n), -2);
            leaves("best(" + n + ", 0)", x -> x.best(n, 0), -2);
            leaves("best(1, " + (n == 0 ? 2 : n) + ")", x -> x.best(1, n == 0 ? 2 : n), -1);
            leaves("order(" + n + ", 0)", x -> x.order(n, 0), -2);
            leaves("order(1, " + (n == 0 || n == -1 ? 4 : n) + ")", x -> x.order(1, n == 0 || n == -1 ? 4 : n), -1);
            leaves("pulley(" + n + ", 1)", x -> x.pulley(n, 1), -100002);
            leaves("change(" + n + ", 1)", x -> x.change(n, 1), -2);
            leaves("rested(" + n + ", 1, 1)", x -> x.rested(n, 1, 1), -2);
            leaves("odds(" + n + ", 1, 0)", x -> x.odds(n, 1, 0), NO);
            leaves("mean(" + n + ", 0)", x -> x.mean(n, 0), NO);
            leaves("mean(1, " + (n == 0 ? 2 : n) + ")", x -> x.mean(1, n == 0 ? 2 : n), NO);
            leaves("on(" + (n == 0 ? 31 : n) + ", 1, 0)", x -> x.on(n == 0 ? 31 : n, 1, 0), -2);
            leaves("on(1, 1, " + (n == 0 ? 4 : n) + ")", x -> x.on(1, 1, n == 0 ? 4 : n), -1);
            leaves("trace(" + (n == 0 ? 20 : n) + ")", x -> x.trace(n == 0 ? 20 : n), -1);
        }
        for (int n : new int[] {-2, 10000, 128, MIN, MAX}) {
            leaves("pause(" + (n == 128 ? -1 : n) + ")", x -> x.pause(n == 128 ? -1 : n), -2);
            leaves("feed(" + (n == -2 ? -1 : n) + ")", x -> x.feed(n == -2 ? -1 : n), -2);
            leaves("see(" + (n == 128 ? 20 : n) + ")", x -> x.see(n == 128 ? 20 : n), -2);
            leaves("book(" + (n == 128 ? 20 : n) + ", true)", x -> x.book(n == 128 ? 20 : n, true), -2);
            leaves("tape(0, " + (n == 128 ? 5 : n) + ", 1)", x -> x.tape(0, n == 128 ? 5 : n, 1), -2);
            leaves("man(" + (n == 128 ? 7 : n) + ", 0)", x -> x.man(n == 128 ? 7 : n, 0), -1);
            leaves("man(0, " + (n == 128 ? 10 : n) + ")", x -> x.man(0, n == 128 ? 10 : n), -2);
        }
        leaves("man(-1, 0)", x -> x.man(-1, 0), -1);
        leaves("man(0, -1)", x -> x.man(0, -1), -2);
        leaves("tape(0, 0, 61)", x -> x.tape(0, 0, 61), -2);
        leaves("tape(0, 0, greatest)", x -> x.tape(0, 0, MAX), -2);
        leaves("tape(0, 0, -1)", x -> x.tape(0, 0, -1), -14);
        leaves("tape(0, 4, least)", x -> x.tape(0, 4, MIN), -14);
    }

    private static void asked() {
        for (int b : new int[] {1, 13, 99}) {
            for (int what = 0; what < 4; what++) {
                int asks = what;
                leaves("on(30, " + b + ", " + what + ")", x -> x.on(30, b, asks), ANY);
                leaves("on(0, " + b + ", " + what + ")", x -> x.on(0, b, asks), ANY);
                leaves("without(" + what + ", 30, " + b + ")", x -> x.without(asks, 30, b), ANY);
            }
            leaves("pulley(30, " + b + ")", x -> x.pulley(30, b), ANY);
            leaves("from(" + b + ")", x -> x.from(b), ANY);
            leaves("rested(20, " + b + ", 60)", x -> x.rested(20, b, 60), ANY);
            leaves("change(30, " + b + ")", x -> x.change(30, b), ANY);
            leaves("who(" + b + ")", x -> x.who(b), ANY);
            leaves("odds(20, " + b + ", 0)", x -> x.odds(20, b, 0), ANY);
            leaves("odds(20, " + b + ", 1)", x -> x.odds(20, b, 1), ANY);
            leaves("looked(" + b + ")", x -> x.looked(b), ANY);
        }
        for (int n : new int[] {1, 8, 20}) {
            leaves("safe(" + n + ")", x -> x.safe(n), ANY);
            leaves("best(" + n + ", 0)", x -> x.best(n, 0), ANY);
            leaves("best(" + n + ", 1)", x -> x.best(n, 1), ANY);
            leaves("mean(" + n + ", 0)", x -> x.mean(n, 0), ANY);
            leaves("mean(" + n + ", 1)", x -> x.mean(n, 1), ANY);
        }
        for (int n = -1; n < 4; n++) {
            int k = n;
            leaves("order(8, " + k + ")", x -> x.order(8, k), ANY);
            leaves("taken(1, " + (k + 1) + ")", x -> x.taken(1, k + 1), ANY);
            leaves("judge(" + (k + 1) + ", 0)", x -> x.judge(k + 1, 0), ANY);
            leaves("judge(0, " + k + ")", x -> x.judge(0, k), ANY);
            leaves("read(1, " + k + ")", x -> x.read(1, k), ANY);
            leaves("trace(" + k + ")", x -> x.trace(k), ANY);
            leaves("told(" + (k + 2) + ")", x -> x.told(k + 2), ANY);
            leaves("told(" + (k + 11) + ")", x -> x.told(k + 11), ANY);
            leaves("of(1, " + (k + 2) + ")", x -> x.of(1, k + 2), ANY);
            leaves("count(" + (k + 1) + ")", x -> x.count(k + 1), ANY);
        }
        leaves("slowest()", TubeChain::slowest, ANY);
        leaves("pause(0)", x -> x.pause(0), ANY);
    }

    private static void refusedWithNothingThere() {
        untouched = lookAt(inState());
        leaves("undo()", TubeChain::undo, -3);
        leaves("scaffold()", TubeChain::scaffold, -10);
        leaves("held(0, 1)", x -> x.held(0, 1), -1);
        leaves("row(0, 0, 1)", x -> x.row(0, 0, 1), -1);
        leaves("place(0, 0)", x -> x.place(0, 0), -1);
        leaves("item(0, 0, 1)", x -> x.item(0, 0, 1), -11);
        leaves("shift(0, 0, 0, 0, 0)", x -> x.shift(0, 0, 0, 0, 0), -11);
        leaves("act(0, 0, 1)", x -> x.act(0, 0, 1), 0);
        leaves("odds(1, 1, 0)", x -> x.odds(1, 1, 0), NO);
        leaves("slowest()", TubeChain::slowest, -5);
    }

    private static void refusedInTheMiddle() {
        untouched = lookAt(inState());
        leaves("man(7, 10)", x -> x.man(7, 10), -1);
        leaves("held(4, 0)", x -> x.held(4, 0), -1);
        leaves("held(0, 10000)", x -> x.held(0, 10000), -2);
        leaves("held(0, -1)", x -> x.held(0, -1), -2);
        leaves("row(2, 4, 0)", x -> x.row(2, 4, 0), -1);
        leaves("row(2, -1, 0)", x -> x.row(2, -1, 0), -1);
        leaves("row(2, 0, 10)", x -> x.row(2, 0, 10), -2);
        leaves("row(2, 0, -1)", x -> x.row(2, 0, -1), -2);
        for (int man : new int[] {0, 1, 3}) {
            leaves("row(" + man + ", 0, 5)", x -> x.row(man, 0, 5), -3);
        }
        leaves("place(0, 4)", x -> x.place(0, 4), -1);
        leaves("place(4, 0)", x -> x.place(4, 0), -1);
        leaves("told(14)", x -> x.told(14), -1);
        leaves("judge(1, 0)", x -> x.judge(1, 0), -12);
        leaves("tape(1, 1, 61)", x -> x.tape(1, 1, 61), -2);
        leaves("tape(1, 1, -1)", x -> x.tape(1, 1, -1), -14);
        leaves("tape(1, 5, 1)", x -> x.tape(1, 5, 1), -2);
        leaves("item(0, 4, 1)", x -> x.item(0, 4, 1), -13);
        leaves("item(0, -1, 1)", x -> x.item(0, -1, 1), -13);
        leaves("item(5, 0, 1)", x -> x.item(5, 0, 1), -11);
        leaves("shift(0, 0, 5, 0, 1)", x -> x.shift(0, 0, 5, 0, 1), -11);
        leaves("shift(0, 0, 3, 0, 1)", x -> x.shift(0, 0, 3, 0, 1), -12);
        leaves("shift(0, 1, 0, 0, 4)", x -> x.shift(0, 1, 0, 0, 4), -13);
        leaves("shift(0, 0, 0, 1, 4)", x -> x.shift(0, 0, 0, 1, 4), -13);
        leaves("shift(0, 1, 0, 0, -1)", x -> x.shift(0, 1, 0, 0, -1), -13);
        leaves("shift(0, -1, 0, 0, 1)", x -> x.shift(0, -1, 0, 0, 1), -13);
        leaves("shift(0, 1, 0, -1, 1)", x -> x.shift(0, 1, 0, -1, 1), -13);
        leaves("taken(0, 1)", x -> x.taken(0, 1), -12);
        leaves("taken(4, 1)", x -> x.taken(4, 1), -11);
    }

    private static void refusedWhenFull() {
        untouched = lookAt(inState());
        for (int kind = 0; kind <= 6; kind++) {
            int k = kind;
            leaves("man(" + k + ", 1)", x -> x.man(k, 1), -4);
        }
        for (int sign : new int[] {0, 'r', 127}) {
            leaves("feed(" + sign + ")", x -> x.feed(sign), -4);
        }
        leaves("scaffold()", TubeChain::scaffold, -4);
        for (int tube : new int[] {0, 15, 19}) {
            leaves("see(" + tube + ")", x -> x.see(tube), -4);
            leaves("book(" + tube + ", true)", x -> x.book(tube, true), -4);
            leaves("book(" + tube + ", false)", x -> x.book(tube, false), -4);
        }
        leaves("order(8, -1)", x -> x.order(8, -1), -9);
        leaves("told(16)", x -> x.told(16), -1);
        leaves("place(5, 6)", x -> x.place(5, 6), -1);
        leaves("item(2, 60, 1)", x -> x.item(2, 60, 1), -13);
        leaves("shift(2, 0, 2, 1, 60)", x -> x.shift(2, 0, 2, 1, 60), -13);
        leaves("shift(0, 0, 1, 0, 60)", x -> x.shift(0, 0, 1, 0, 60), -12);
    }

    private static void refusedAtTheEndOfTime() {
        untouched = lookAt(inState());
        leaves("told(0)", x -> x.told(0), 999998);
        leaves("up(2)", x -> x.up(2), -3);
        leaves("up(99)", x -> x.up(99), -3);
        leaves("pause(2)", x -> x.pause(2), -3);
        leaves("pause(9999)", x -> x.pause(9999), -3);
        leaves("undo()", TubeChain::undo, -3);
    }
}
