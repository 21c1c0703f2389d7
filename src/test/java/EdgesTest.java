/**
 * Each sentence of ../shared/DOC.md that names a boundary case has a test of its own here, in the document's order:
 * the last number that is taken and the first that is refused on either side, what is empty and what is full, what
 * wraps around. All answers are reckoned by hand. That a refused call leaves all as it was stands in RefusedTest.
 */
public final class EdgesTest {
    private static final int MIN = Integer.MIN_VALUE;
    private static final int MAX = Integer.MAX_VALUE;
    private static final long NO = Long.MIN_VALUE;
    private static final int NONE = -1;
    private static final int BAD = -2;
    private static final int STATE = -3;
    private static final int FULL = -4;
    private static final int NOTHING = -11;
    private static final int CAST = -12;
    private static final int PLACE = -13;
    private static final int SIZE = -14;
    private static int wrong = 0;
    private static int sentences = 0;
    private static String sentence = "";
    private static TubeChain x = new TubeChain();

    public static void main(String[] args) {
        termsOfMen();
        termsOfScaffolds();
        termsOfPaces();
        termsOfHolds();
        termsOfTubes();
        menAndWhatIsTheirs();
        chainsAndTexts();
        throwsAndPauses();
        onSoMany();
        beats();
        orders();
        pulleys();
        rests();
        changes();
        seen();
        odds();
        books();
        judging();
        images();
        acts();
        counts();
        tapes();
        shifts();
        if (sentences < 150) {
            wrong++;
            System.out.println("edges: only " + sentences + " sentences were looked at");
        }
        System.out.println(wrong == 0 ? "edges: " + sentences + " sentences hold" : wrong + " edges are not as due");
        if (wrong != 0) {
            System.exit(1);
        }
    }

    /** A sentence of the document, and a new object to look at it with. */
    private static void says(String promise, String words) {
        sentence = promise + ": " + words;
        sentences++;
        x = new TubeChain();
    }

    private static void due(String call, long got, long want) {
        if (got != want) {
            wrong++;
            System.out.println(sentence + "\n    " + call + " answered " + got + ", due is " + want);
        }
    }

    /** MEN by KIND and v, one behind the other. */
    private static void men(int... kindsAndVs) {
        for (int i = 0; i + 1 < kindsAndVs.length; i += 2) {
            x.man(kindsAndVs[i], kindsAndVs[i + 1]);
        }
    }

    private static void feed(String text) {
        for (char sign : text.toCharArray()) {
            x.feed(sign);
        }
    }

    private static int scaffold(String text) {
        feed(text);
        return x.scaffold();
    }

    /** A text on a new object: it must be a SCAFFOLD. */
    private static void holds(String text) {
        x = new TubeChain();
        due("«" + text + "»", scaffold(text), 0);
    }

    /** A text on a new object: its FAULT must be at this place. */
    private static void fault(String text, int place) {
        x = new TubeChain();
        due("«" + text + "»", scaffold(text), -10 - place);
        due("«" + text + "» is no SCAFFOLD: count(1)", x.count(1), 0);
    }

    // ---- Terms 1

    private static void termsOfMen() {
        says("Terms 1", "MEN 0 .. 5, as they come");
        for (int number = 0; number <= 5; number++) {
            due("the next", x.man(0, 0), number);
        }
        due("a seventh", x.man(0, 0), FULL);
        says("Terms 1", "KINDS: 0 MAN .. 6 TOLD");
        due("0", x.man(0, 0), 0);
        due("6", x.man(6, 0), 1);
        for (int kind : new int[] {-1, 7, MIN, MAX}) {
            due("man(" + kind + ", 0)", x.man(kind, 0), NONE);
        }
        says("Terms 1", "a number v (0 .. 9)");
        due("0", x.man(0, 0), 0);
        due("9", x.man(0, 9), 1);
        for (int v : new int[] {-1, 10, MIN, MAX}) {
            due("man(0, " + v + ")", x.man(0, v), BAD);
        }
        says("Terms 1", "HELD 0 at first");
        men(3, 1);
        due("HELD", x.of(0, 2), 0);
        says("Terms 1", "HELD 9999 at most: by hand");
        men(0, 0);
        due("the last", x.held(0, 9999), 0);
        due("the first above", x.held(0, 10000), BAD);
        due("HELD", x.of(0, 2), 9999);
        says("Terms 1", "HELD 9999 at most: by tubes that one takes");
        men(0, 0);
        x.held(0, 9998);
        due("up", x.up(50), 18);
        due("HELD", x.of(0, 2), 9999);
        due("up", x.up(50), 18);
        due("HELD", x.of(0, 2), 9999);
        due("FREE goes on all the same", x.of(0, 3), 66);
        due("UP goes on all the same", x.told(1), 2);
        says("Terms 1", "HELD 9999 at most: by tubes that one lets slip");
        men(5, 0);
        x.held(0, 9999);
        due("10000 is a multiple of 2", x.up(50), -10);
        due("HELD", x.of(0, 2), 9999);
        due("10000 again", x.up(50), -10);
        says("Terms 1", "HELD 9999 at most, of each MAN");
        men(0, 0, 0, 0);
        x.held(0, 9999);
        x.held(1, 9999);
        due("up", x.up(50), 31);
        due("HELD of 0", x.of(0, 2), 9999);
        due("HELD of 1", x.of(1, 2), 9999);
        says("Terms 1", "FREE (from which TENTH on; 0 at first)");
        men(0, 0);
        due("FREE", x.of(0, 3), 0);
        feed("rise 0;rest 0;quick 7 m=0");
        x.scaffold();
        due("comes just at 0", x.up(1), 1);
        due("FREE", x.of(0, 3), 1);
        due("comes just at 1", x.up(1), 1);
        says("Terms 1", "THE CHAIN: a new one is on top");
        men(0, 0, 0, 0);
        x.place(1, 0);
        men(0, 0);
        due("first", x.told(10), 1);
        due("second", x.told(11), 0);
        due("on top", x.told(12), 2);
        due("its place", x.of(2, 4), 2);
        says("Terms 1", "TENTH: 0 at first. UP, FALLEN: 0 at first");
        due("TENTH", x.told(0), 0);
        due("UP", x.told(1), 0);
        due("FALLEN", x.told(2), 0);
    }

    private static void termsOfScaffolds() {
        says("Terms 1", "THE TEXT (bytes, 100 at most)");
        StringBuilder tests = new StringBuilder("slow 10 m=1");
        while (tests.length() < 99) {
            tests.append("&m=1");
        }
        String ninetyNine = tests.toString();
        String hundred = ninetyNine + "1";
        for (int i = 0; i < 100; i++) {
            due("byte " + (i + 1), x.feed(hundred.charAt(i)), i + 1);
        }
        due("one more", x.feed('1'), FULL);
        due("a full one", x.scaffold(), 0);
        due("empty then", x.count(4), 0);
        due("one more", x.feed('1'), 1);
        says("Terms 1", "THE TEXT full, and it ends too early");
        fault(ninetyNine + "&", 100);
        fault(ninetyNine + "|", 100);
        fault(ninetyNine + ";", 100);
        fault(ninetyNine + "(", 99);
        says("Terms 1", "THE TEXT empty");
        fault("", 0);
        says("Terms 1", "CLAUSES, 1 to 10, with ; between");
        String nine = "rise 1;rise 2;rise 3;rise 4;rise 5;rise 6;rise 7;rise 8;rise 9";
        holds("rise 1");
        holds(nine);
        holds(nine + ";rise 10");
        due("the tenth counts", x.told(3), 10);
        fault(nine + ";rise 10;", 70);
        fault(nine + ";rise 10;rise 11", 70);
        fault(";rise 1", 0);
        fault("rise 1;", 7);
        fault("rise 1;;rise 2", 7);
        fault("rise 1,rise 2", 6);
        fault("rise 1 ;rise 2", 6);
        fault("rise 1; rise 2", 7);
        says("Terms 1", "slow n E; quick n E; rise n; rest n; pull n");
        holds("slow 1 m=1");
        holds("quick 1 m=1");
        holds("rise 1");
        holds("rest 1");
        holds("pull 1");
        String[] words = {"slow", "quick", "rise", "rest", "pull"};
        for (String word : words) {
            for (int end = 0; end <= word.length(); end++) {
                fault(word.substring(0, end), end);
                fault(word.substring(0, end) + "z", end);
                fault(word.substring(0, end) + (char) 0, end);
                fault(word.substring(0, end) + (char) 127, end);
            }
            for (String next : words) {
                fault(word + next + " 1", word.length());
            }
            fault(word.toUpperCase(), 0);
        }
        fault("rist 1", 3);
        fault("rese 1", 3);
        fault("pu", 2);
        says("Terms 1", "one blank ahead of each part behind the word");
        fault("rise1", 4);
        fault("rise  1", 5);
        fault("rise\t1", 4);
        fault(" rise 1", 0);
        fault("slow 1m=1", 6);
        fault("slow 1  m=1", 7);
        fault("quick 1 m =1", 9);
        fault("rise 1 ", 6);
        says("Terms 1", "n 1 or 2 digits");
        holds("rise 0");
        holds("rise 9");
        holds("rise 00");
        holds("rise 99");
        due("RISE", x.told(3), 99);
        fault("rise ", 5);
        fault("rise 100", 7);
        fault("rise 1a", 6);
        fault("rise /", 5);
        fault("rise :", 5);
        fault("rise 1/", 6);
        fault("rise 1:", 6);
        fault("rise -1", 5);
        fault("slow 100 m=1", 7);
        says("Terms 1", "E: T or T|E. T: F or F&T");
        holds("slow 1 m=1|m=1");
        holds("slow 1 m=1&m=1");
        holds("slow 1 m=1|m=1&m=1|m=1");
        fault("slow 1 |", 7);
        fault("slow 1 &m=1", 7);
        fault("slow 1 m=1|", 11);
        fault("slow 1 m=1&", 11);
        fault("slow 1 m=1||m=1", 11);
        fault("slow 1 m=1&&m=1", 11);
        fault("slow 1 m=1m=1", 10);
        says("Terms 1", "F: !F, (E), or a TEST");
        holds("slow 1 !m=1");
        holds("slow 1 (m=1)");
        holds("slow 1 !(m=1|m=1)&(m=1)");
        fault("slow 1 !", 8);
        fault("slow 1 !|", 8);
        fault("slow 1 (", 8);
        fault("slow 1 ()", 8);
        fault("slow 1 (m=1", 11);
        fault("slow 1 (m=1;rise 1", 11);
        fault("slow 1 m=1)", 10);
        fault("slow 1 (m=1))", 12);
        fault("slow 1 m!=1", 8);
        says("Terms 1", "a TEST: a letter, < or = or >, a number (1 or 2 digits)");
        for (char letter = 0; letter < 128; letter++) {
            if ("mklhtv".indexOf(letter) >= 0) {
                holds("slow 1 " + letter + "<0");
                holds("slow 1 " + letter + "=9");
                holds("slow 1 " + letter + ">99");
                fault("slow 1 " + letter, 8);
                fault("slow 1 " + letter + "=", 9);
            } else if (letter != '(' && letter != '!') {
                fault("slow 1 " + letter + "=1", 7);
            }
        }
        fault("slow 1 m<=1", 9);
        fault("slow 1 m;1", 8);
        fault("slow 1 m?1", 8);
        fault("slow 1 m=x", 9);
        fault("slow 1 m=100", 11);
        fault("slow 1 m=1=1", 10);
        depths();
        faults();
        newestHolds();
    }

    private static void depths() {
        says("Terms 1", "A ( or ! within 4 others is none");
        holds("slow 1 ((((m=1))))");
        holds("slow 1 !!!!m=1");
        holds("slow 1 (!(!m=1))");
        holds("slow 1 !(!(m=1))");
        fault("slow 1 (((((m=1)))))", 11);
        fault("slow 1 !!!!!m=1", 11);
        fault("slow 1 (!(!(m=1))))", 11);
        fault("slow 1 !(!(!m=1))", 11);
        fault("slow 1 ((((!m=1))))", 11);
        fault("slow 1 !!!!(m=1)", 11);
        says("Terms 1", "... those that are closed again do not count");
        holds("slow 1 ((((m=1))))|((((m=1))))&!!!!m=1");
        holds("slow 1 (((!m=1|!m=1&(m=1))))");
        holds("slow 1 (((!m=1)|(m=1)))");
        holds("slow 1 (((!m=1)|(m=1|(m=1))))");
        fault("slow 1 (((!m=1)|(m=1|((m=1)))))", 22);
        fault("slow 1 ((((m=1))))|(((((m=1", 23);
        fault("slow 1 (((!m=1&!!m=1)))", 16);
    }

    private static void faults() {
        says("Terms 1", "The FAULT: the place of the first byte with which none begins so");
        fault("zise 1", 0);
        fault("rise 1;slow 1 m=1;quick 2 m~1", 27);
        fault("rise 1;x;y", 7);
        says("Terms 1", "... (the end of THE TEXT, if it ends too early)");
        fault("rise 1;slow 1 m=1;quick 2 m", 27);
        fault("r", 1);
        fault("rise 1;slow 1", 13);
    }

    private static void newestHolds() {
        says("Terms 1", "The newest SCAFFOLD holds (6 at most)");
        for (int n = 0; n < 6; n++) {
            due("a SCAFFOLD", scaffold("rise " + n), n);
            due("RISE", x.told(3), n);
        }
        due("a seventh", scaffold("rise 7"), FULL);
        due("RISE", x.told(3), 5);
        says("Terms 1", "without one there are no CLAUSES");
        men(0, 0);
        due("PACE", x.of(0, 5), 8);
        due("RISE", x.told(3), 5);
        due("REST", x.told(4), 3);
        due("PULL", x.told(5), 40);
        due("of one with others: RISE", scaffold("slow 0 m=0"), 0);
        due("PACE", x.of(0, 5), 8);
        due("RISE", x.told(3), 5);
        due("REST", x.told(4), 3);
        due("PULL", x.told(5), 40);
    }

    /** PACE of a lone MAN, number 0, by a text. */
    private static void pace(String text, int kind, int v, int held, int want) {
        x = new TubeChain();
        x.man(kind, v);
        x.held(0, held);
        scaffold(text);
        due("PACE by «" + text + "», KIND " + kind + ", v " + v + ", HELD " + held, x.of(0, 5), want);
    }

    private static void termsOfPaces() {
        says("Terms 1", "PACE: 8, and the n of all slow whose E holds, less those of all quick, together");
        pace("slow 1 m=0;quick 2 m=0;slow 4 m=1;quick 8 m=1;slow 16 m<1", 0, 0, 0, 23);
        pace("quick 99 m=0;slow 99 m=0;slow 3 m=0", 0, 0, 0, 11);
        pace("slow 0 m=0;quick 0 m=0", 0, 0, 0, 8);
        pace("slow 99 m=0;slow 99 m=0;slow 99 m=0;slow 99 m=0;slow 99 m=0;slow 99 m=0;slow 99 m=0;slow 99 m=0;", 0, 0, 0, 8);
        says("Terms 1", "... (1 at least)");
        pace("quick 6 m=0", 0, 0, 0, 2);
        pace("quick 7 m=0", 0, 0, 0, 1);
        pace("quick 8 m=0", 0, 0, 0, 1);
        pace("quick 9 m=0", 0, 0, 0, 1);
        pace("quick 99 m=0;quick 99 m=0;quick 99 m=0;quick 99 m=0;quick 99 m=0;quick 99 m=0;quick 99 m=0", 0, 0, 0, 1);
        pace("slow 99 m<1;slow 99 m<1;slow 99 m<1;slow 99 m<1;slow 99 m<1;slow 99 m<1;slow 99 m<1;slow 99 m<1", 0, 0, 0, 800);
        says("Terms 1", "RISE (5 without), REST (3 without), PULL (40 without): the last one's n");
        holds("rise 1;rise 0;rise 2");
        due("RISE", x.told(3), 2);
        due("REST", x.told(4), 3);
        due("PULL", x.told(5), 40);
        holds("rest 1;rest 99;rest 0");
        due("RISE", x.told(3), 5);
        due("REST", x.told(4), 0);
        holds("pull 1;pull 99");
        due("PULL", x.told(5), 99);
        holds("rise 0");
        due("RISE", x.told(3), 0);
        says("Terms 1", "PULL (1 if less)");
        holds("pull 0");
        due("PULL", x.told(5), 1);
        holds("pull 00;rise 3");
        due("PULL", x.told(5), 1);
        holds("pull 1");
        due("PULL", x.told(5), 1);
        holds("pull 2");
        due("PULL", x.told(5), 2);
        holds("pull 7;pull 0");
        due("PULL", x.told(5), 1);
        tests();
    }

    private static void tests() {
        says("Terms 1", "< or = or >");
        for (int n = 0; n <= 9; n++) {
            pace("slow 10 v<" + n, 0, 4, 0, 4 < n ? 18 : 8);
            pace("slow 10 v=" + n, 0, 4, 0, 4 == n ? 18 : 8);
            pace("slow 10 v>" + n, 0, 4, 0, 4 > n ? 18 : 8);
        }
        pace("slow 10 v<99", 0, 9, 0, 18);
        pace("slow 10 v=09", 0, 9, 0, 18);
        says("Terms 1", "m its number, k its KIND, l its place in THE CHAIN, v its v");
        for (int who = 0; who < 6; who++) {
            x = new TubeChain();
            men(6, 1, 5, 2, 4, 3, 3, 4, 2, 5, 1, 6);
            x.place(5, 0);
            scaffold("slow 10 m=" + who + ";slow 20 k=" + who + ";slow 40 l=" + who + ";slow 80 v=" + who);
            for (int man = 0; man < 6; man++) {
                int want = 8 + (man == who ? 10 : 0) + (6 - man == who ? 20 : 0) + ((man + 1) % 6 == who ? 40 : 0)
                    + (man + 1 == who ? 80 : 0);
                due("PACE of " + man + " by " + who, x.of(man, 5), want);
            }
        }
        says("Terms 1", "h HELD modulo 10");
        pace("slow 10 h=9", 0, 0, 9, 18);
        pace("slow 10 h=0", 0, 0, 10, 18);
        pace("slow 10 h>8", 0, 0, 10, 8);
        pace("slow 10 h=9", 0, 0, 9999, 18);
        pace("slow 10 h>9", 0, 0, 9999, 8);
        says("Terms 1", "t HELD by 10 (cut; 99 at most)");
        pace("slow 10 t=0", 0, 0, 9, 18);
        pace("slow 10 t=1", 0, 0, 10, 18);
        pace("slow 10 t=1", 0, 0, 19, 18);
        pace("slow 10 t=2", 0, 0, 20, 18);
        pace("slow 10 t=98", 0, 0, 989, 18);
        pace("slow 10 t=99", 0, 0, 989, 8);
        pace("slow 10 t=99", 0, 0, 990, 18);
        pace("slow 10 t=99", 0, 0, 999, 18);
        pace("slow 10 t=99", 0, 0, 1000, 18);
        pace("slow 10 t=99", 0, 0, 9999, 18);
        pace("slow 10 t>99", 0, 0, 9999, 8);
        pace("slow 10 t<99", 0, 0, 9999, 8);
        says("Terms 1", "HELD of those that are asked of later is looked at anew: h and t");
        men(0, 0);
        scaffold("slow 1 h=5;slow 20 t=1;slow 40 t=99");
        int[][] paces = {{0, 8}, {5, 9}, {15, 29}, {69, 8}, {5, 9}, {64, 8}, {990, 48}, {995, 49}, {1005, 49}, {1004, 48},
            {9995, 49}, {1015, 49}, {1014, 48}, {0, 8}, {10, 28}, {330, 8}, {10, 28}, {981, 8}, {1109, 48}, {981, 8}};
        for (int[] heldAndPace : paces) {
            x.held(0, heldAndPace[0]);
            due("PACE with HELD " + heldAndPace[0], x.of(0, 5), heldAndPace[1]);
        }
        for (int step : new int[] {1, 9, 10, 11, 16, 32, 64, 100, 128, 320, 576, 640, 704, 1024}) {
            x = new TubeChain();
            men(0, 0);
            // PACE is 8 and h then
            scaffold("slow 8 h>7;slow 4 h>3&h<8;slow 2 h=2|h=3|h=6|h=7;slow 1 h=1|h=3|h=5|h=7|h=9");
            for (int n = 0; n < 200; n++) {
                int held = n * step % 10000;
                x.held(0, held);
                due("PACE with HELD " + held, x.of(0, 5), 8 + held % 10);
            }
        }
        says("Terms 1", "k and v of another one who has the same number, when the first is undone");
        for (int step = 0; step <= 6; step += 6) {
            x = new TubeChain();
            scaffold("slow 8 v>7;slow 4 v>3&v<8;slow 2 v=2|v=3|v=6|v=7;slow 1 v=1|v=3|v=5|v=7|v=9;slow 50 k>2;quick 5 k>3");
            x.image();
            for (int n = 0; n < 70; n++) {
                x.man(n / 10, n % 10);
                x.held(0, 500 - step * n);
                due("PACE of KIND " + n / 10 + " with v " + n % 10, x.of(0, 5), 8 + n % 10 + (n >= 30 ? 50 : 0) - (n >= 40 ? 5 : 0));
                x.undo();
            }
        }
        says("Terms 1", "T|E, F&T, !F, (E): what binds how");
        boolean[] sides = {false, true};
        for (boolean a : sides) {
            for (boolean b : sides) {
                for (boolean c : sides) {
                    formula("A|B&C", a, b, c, a || b && c);
                    formula("A&B|C", a, b, c, a && b || c);
                    formula("(A|B)&C", a, b, c, (a || b) && c);
                    formula("A&(B|C)", a, b, c, a && (b || c));
                    formula("!A&B|C", a, b, c, !a && b || c);
                    formula("!(A&B|C)", a, b, c, !(a && b || c));
                    formula("!A|!B&!C", a, b, c, !a || !b && !c);
                    formula("A&!(B|!C)", a, b, c, a && !(b || !c));
                    formula("!!A&!!!B|!!!!C", a, b, c, a && !b || c);
                    formula("((((A))))&B&C", a, b, c, a && b && c);
                    formula("A|((B|(C&A)))", a, b, c, a || b || c && a);
                    formula("!((A|B)&(B|C))", a, b, c, !((a || b) && (b || c)));
                }
            }
        }
    }

    private static void formula(String form, boolean a, boolean b, boolean c, boolean want) {
        String text = form.replace("A", a ? "m=0" : "m>0").replace("B", b ? "v<4" : "v=4").replace("C", c ? "k<1" : "k>0");
        pace("slow 7 " + text, 0, 3, 0, want ? 15 : 8);
        pace("quick 3 " + text + ";slow 50 m=0", 0, 3, 0, want ? 55 : 58);
    }

    /** HOLDS of a lone one, with PACE 8 less quick. */
    private static void holdsWith(int quick, int kind, int v, int held, int want) {
        x = new TubeChain();
        x.man(kind, v);
        x.held(0, held);
        scaffold("quick " + quick + " m=0");
        due("HOLDS of KIND " + kind + " with v " + v + ", HELD " + held + " and PACE " + x.of(0, 5), x.of(0, 6), want);
    }

    private static void termsOfHolds() {
        says("Terms 1", "HOLDS: MAN: PACE");
        holdsWith(0, 0, 9, 99, 8);
        holdsWith(99, 0, 9, 99, 1);
        says("Terms 1", "HOLDS: STRONG: PACE less the half of v (cut)");
        int[] halves = {8, 8, 7, 7, 6, 6, 5, 5, 4, 4};
        for (int v = 0; v <= 9; v++) {
            holdsWith(0, 1, v, 9999, halves[v]);
        }
        says("Terms 1", "HOLDS: STRONG: ... (1 at least)");
        holdsWith(4, 1, 6, 0, 1);
        holdsWith(4, 1, 8, 0, 1);
        holdsWith(5, 1, 9, 0, 1);
        holdsWith(99, 1, 9, 0, 1);
        holdsWith(99, 1, 0, 0, 1);
        holdsWith(4, 1, 4, 0, 2);
        says("Terms 1", "HOLDS: GLOVED: PACE and 2");
        holdsWith(0, 2, 9, 99, 10);
        holdsWith(99, 2, 9, 99, 3);
        says("Terms 1", "HOLDS: TIRING: PACE, and HELD by 8 (cut)");
        int[][] heldAndHolds = {{0, 8}, {7, 8}, {8, 9}, {15, 9}, {16, 10}, {9991, 1256}, {9992, 1257}, {9999, 1257}};
        for (int[] row : heldAndHolds) {
            holdsWith(0, 3, 9, row[0], row[1]);
        }
        holdsWith(99, 3, 0, 8, 2);
        says("Terms 1", "HOLDS: CALLING: as STRONG, the half of that (cut)");
        int[] ofThat = {4, 4, 3, 3, 3, 3, 2, 2, 2, 2};
        for (int v = 0; v <= 9; v++) {
            holdsWith(0, 4, v, 9999, ofThat[v]);
        }
        says("Terms 1", "HOLDS: CALLING: ... (1 at least)");
        holdsWith(4, 4, 0, 0, 2);
        holdsWith(5, 4, 0, 0, 1);
        holdsWith(6, 4, 0, 0, 1);
        holdsWith(7, 4, 0, 0, 1);
        holdsWith(99, 4, 9, 0, 1);
        says("Terms 1", "HOLDS: SLIPPING: as GLOVED");
        holdsWith(0, 5, 9, 99, 10);
        holdsWith(99, 5, 9, 99, 3);
        rowsOfAll();
        says("Terms 1", "HOLDS: TOLD: as TIRING, and its ROW at HELD modulo 4 more (0 at first)");
        men(6, 5);
        int[] row = {9, 0, 4, 1};
        for (int part = 0; part < 4; part++) {
            x.held(0, 9996 + part);
            due("HOLDS at first", x.of(0, 6), 1257);
            due("row", x.row(0, part, row[part]), 0);
        }
        for (int held = 0; held < 24; held++) {
            x.held(0, held);
            due("HOLDS with HELD " + held, x.of(0, 6), 8 + held / 8 + row[held % 4]);
        }
        x.held(0, 9999);
        due("HOLDS with HELD 9999", x.of(0, 6), 8 + 1249 + 1);
    }

    private static void rowsOfAll() {
        says("Terms 1", "the ROW of each TOLD one is asked of, and is of THE IMAGE");
        men(6, 0, 6, 0, 6, 0, 6, 0, 6, 0, 6, 0);
        int alone = 6 * 13 + 5;
        for (int man = 0; man < 6; man++) {
            for (int part = 0; part < 4; part++) {
                due("as long as all need", x.on(1, 1, 1), alone);
                x.held(man, part);
                due("row", x.row(man, part, 9), 0);
                due("9 longer by " + man + ", " + part, x.on(1, 1, 1), alone + 9);
                x.image();
                due("row", x.row(man, part, 3), 9);
                due("3 longer by " + man + ", " + part, x.on(1, 1, 1), alone + 3);
                due("undo", x.undo(), 6);
                due("9 longer by " + man + ", " + part, x.on(1, 1, 1), alone + 9);
                due("row", x.row(man, part, 0), 9);
            }
        }
    }

    private static void termsOfTubes() {
        says("Terms 1", "there is nobody: it is UP then");
        due("up", x.up(99), 5);
        due("UP", x.told(1), 1);
        scaffold("rise 0");
        due("up", x.up(99), 0);
        scaffold("rise 99");
        due("up", x.up(99), 99);
        due("UP", x.told(1), 3);
        due("FALLEN", x.told(2), 0);
        says("Terms 1", "One to whom it comes ahead of FREE lets it fall");
        men(0, 0);
        due("FREE is 16 then", x.up(10), 18);
        due("comes at 15", x.up(1), -10);
        due("comes at 16", x.up(1), 18);
        due("FREE", x.of(0, 3), 27);
        says("Terms 1", "... and FREE and HELD stay, those below had it all the same");
        men(0, 0, 2, 0);
        due("FREE of 0 is 16, of 1 is 31", x.up(12), 33);
        due("comes to 0 at 17, to 1 at 30", x.up(1), -11);
        due("HELD of 0", x.of(0, 2), 2);
        due("FREE of 0", x.of(0, 3), 28);
        due("HELD of 1", x.of(1, 2), 1);
        due("FREE of 1", x.of(1, 3), 31);
        due("FALLEN", x.told(2), 1);
        due("UP", x.told(1), 1);
        says("Terms 1", "A SLIPPING one lets it fall, if HELD and 1 more are a multiple of v and 2");
        for (int v = 0; v <= 9; v++) {
            x = new TubeChain();
            x.man(5, v);
            for (int n = 1; n <= 24; n++) {
                boolean slips = n % (v + 2) == 0;
                due("v " + v + ", tube " + n, x.up(99), slips ? -10 : 20);
                due("HELD is 1 more", x.of(0, 2), n);
            }
        }
        says("Terms 1", "... (else): not if it comes ahead of FREE");
        men(5, 0);
        due("takes it", x.up(1), 20);
        due("comes ahead of FREE", x.up(1), -10);
        due("HELD", x.of(0, 2), 1);
        x.pause(98);
        due("lets it slip", x.up(1), -10);
        due("HELD", x.of(0, 2), 2);
        due("FREE stays", x.of(0, 3), 18);
        due("takes the next at once", x.up(1), 20);
        says("Terms 1", "HOLDS by HELD as it is; HELD is 1 more; FREE is HOLDS and REST later than when it came");
        men(6, 0);
        x.row(0, 3, 9);
        x.held(0, 7);
        due("HELD 7: HOLDS 8 and 9", x.up(50), 27);
        due("FREE", x.of(0, 3), 5 + 17 + 3);
        due("HELD 8: HOLDS 8 and 1", x.up(50), 19);
        due("FREE", x.of(0, 3), 55 + 9 + 3);
        says("Terms 1", "RISE 0, REST 0, PACE 1");
        men(0, 0, 0, 0);
        scaffold("rise 0;rest 0;quick 9 m<9");
        due("up", x.up(1), 2);
        due("FREE of 0", x.of(0, 3), 1);
        due("FREE of 1", x.of(1, 3), 2);
        due("the next at once", x.up(1), 2);
        says("Terms 1", "A THROW with a BEAT b (1 .. 99)");
        due("1", x.up(1), 5);
        due("TENTH is b more", x.told(0), 1);
        due("99", x.up(99), 5);
        due("TENTH is b more", x.told(0), 100);
        for (int b : new int[] {0, 100, -1, MIN, MAX}) {
            due("up(" + b + ")", x.up(b), BAD);
        }
        due("TENTH", x.told(0), 100);
    }

    // ---- Promises 1 to 9

    private static void menAndWhatIsTheirs() {
        says("Promise 1", "Nobody, no SCAFFOLD");
        for (int what = 0; what <= 5; what++) {
            due("count(" + what + ")", x.count(what), 0);
        }
        due("first", x.told(10), NONE);
        due("no text", x.scaffold(), -10);
        says("Promise 2", "NONE: kind; BAD: v; FULL: 6: the first that is named");
        men(0, 0, 0, 0, 0, 0, 0, 0, 0, 0);
        due("NONE, BAD", x.man(7, 10), NONE);
        due("the sixth", x.man(6, 9), 5);
        due("FULL", x.man(0, 0), FULL);
        due("BAD, FULL", x.man(0, 10), BAD);
        due("BAD, FULL", x.man(6, -1), BAD);
        due("NONE, FULL", x.man(-1, 0), NONE);
        due("NONE, BAD, FULL", x.man(7, -1), NONE);
        due("MEN", x.count(0), 6);
        says("Promise 3", "Of a MAN what 0 .. 6. NONE");
        due("nobody", x.of(0, 0), NONE);
        men(4, 3, 4, 5);
        due("the first", x.of(0, 0), 4);
        due("the last", x.of(1, 6), 3);
        for (int man : new int[] {-1, 2, 5, 6, MIN, MAX}) {
            due("of(" + man + ", 0)", x.of(man, 0), NONE);
            due("of(" + man + ", 7)", x.of(man, 7), NONE);
        }
        for (int what : new int[] {-1, 7, MIN, MAX}) {
            due("of(0, " + what + ")", x.of(0, what), NONE);
        }
        says("Promise 4", "HELD becomes n (0 .. 9999): what it was. NONE; BAD");
        due("nobody", x.held(0, 0), NONE);
        men(0, 0);
        due("9999", x.held(0, 9999), 0);
        due("0", x.held(0, 0), 9999);
        for (int n : new int[] {-1, 10000, MIN, MAX}) {
            due("held(0, " + n + ")", x.held(0, n), BAD);
            due("held(1, " + n + ")", x.held(1, n), NONE);
        }
        for (int man : new int[] {-1, 1, 6, MIN, MAX}) {
            due("held(" + man + ", 0)", x.held(man, 0), NONE);
        }
        due("HELD", x.of(0, 2), 0);
        says("Promise 5", "The ROW (four numbers 0 .. 9). NONE: man, part; BAD; STATE: another KIND");
        due("nobody", x.row(0, 0, 0), NONE);
        men(6, 0);
        due("part 0, n 9", x.row(0, 0, 9), 0);
        due("part 3, n 9", x.row(0, 3, 9), 0);
        due("part 0, n 0", x.row(0, 0, 0), 9);
        due("part 3", x.row(0, 3, 1), 9);
        for (int part : new int[] {-1, 4, MIN, MAX}) {
            due("row(0, " + part + ", 0)", x.row(0, part, 0), NONE);
            due("row(0, " + part + ", 10)", x.row(0, part, 10), NONE);
        }
        for (int n : new int[] {-1, 10, MIN, MAX}) {
            due("row(0, 0, " + n + ")", x.row(0, 0, n), BAD);
        }
        for (int man : new int[] {-1, 1, 6, MIN, MAX}) {
            due("row(" + man + ", 0, 0)", x.row(man, 0, 0), NONE);
        }
        due("the ROW", x.row(0, 0, 0), 0);
        due("the ROW", x.row(0, 3, 0), 1);
        for (int kind = 0; kind <= 5; kind++) {
            x = new TubeChain();
            x.man(kind, 0);
            due("KIND " + kind, x.row(0, 0, 0), STATE);
            due("KIND " + kind + ", BAD", x.row(0, 0, 10), BAD);
            due("KIND " + kind + ", NONE", x.row(0, 4, 10), NONE);
        }
        says("Promise 5", "the ROW of each TOLD one is his own");
        men(6, 0, 6, 0, 0, 0, 0, 0, 0, 0, 6, 0);
        due("row", x.row(5, 3, 7), 0);
        due("row", x.row(1, 0, 5), 0);
        due("row", x.row(0, 3, 0), 0);
        due("row", x.row(0, 0, 0), 0);
        due("row", x.row(5, 3, 0), 7);
        due("row", x.row(1, 0, 0), 5);
    }

    private static void chain(int... want) {
        for (int k = 0; k < want.length; k++) {
            due("the " + k + "-th", x.told(10 + k), want[k]);
            due("place of " + want[k], x.of(want[k], 4), k);
        }
        due("beyond the last", x.told(10 + want.length), NONE);
    }

    private static void chainsAndTexts() {
        says("Promise 6", "A MAN has place k of THE CHAIN then. NONE: man, k");
        due("nobody", x.place(0, 0), NONE);
        men(0, 0);
        due("the only place", x.place(0, 0), 0);
        for (int k : new int[] {-1, 1, 5, 6, MIN, MAX}) {
            due("place(0, " + k + ")", x.place(0, k), NONE);
        }
        for (int man : new int[] {-1, 1, 6, MIN, MAX}) {
            due("place(" + man + ", 0)", x.place(man, 0), NONE);
        }
        men(0, 0, 0, 0, 0, 0, 0, 0, 0, 0);
        chain(0, 1, 2, 3, 4, 5);
        due("from the first to the last", x.place(0, 5), 0);
        chain(1, 2, 3, 4, 5, 0);
        due("from the last to the first", x.place(0, 0), 5);
        chain(0, 1, 2, 3, 4, 5);
        due("beyond the last", x.place(0, 6), NONE);
        due("up by one", x.place(2, 3), 2);
        chain(0, 1, 3, 2, 4, 5);
        due("down by two", x.place(4, 2), 4);
        chain(0, 1, 4, 3, 2, 5);
        due("where it is", x.place(3, 3), 3);
        chain(0, 1, 4, 3, 2, 5);
        says("Promise 7", "A sign (0 .. 127). BAD; FULL");
        due("0", x.feed(0), 1);
        due("127", x.feed(127), 2);
        for (int sign : new int[] {-1, 128, 256 + 'r', MIN, MAX}) {
            due("feed(" + sign + ")", x.feed(sign), BAD);
        }
        due("bytes", x.count(4), 2);
        for (int n = 3; n <= 100; n++) {
            due("the next", x.feed(' '), n);
        }
        due("FULL", x.feed(0), FULL);
        due("FULL", x.feed(127), FULL);
        due("BAD, FULL", x.feed(128), BAD);
        due("BAD, FULL", x.feed(-1), BAD);
        due("bytes", x.count(4), 100);
        due("a FAULT at 0", x.scaffold(), -10);
        due("empty", x.count(4), 0);
        says("Promise 8", "FULL: there are 6 (THE TEXT stays)");
        for (int n = 0; n < 6; n++) {
            due("one more", scaffold("pull " + n), n);
        }
        due("an empty text", x.scaffold(), FULL);
        feed("rise 9");
        due("a good text", x.scaffold(), FULL);
        due("THE TEXT stays", x.count(4), 6);
        feed(";;");
        due("one with a FAULT", x.scaffold(), FULL);
        due("THE TEXT stays", x.count(4), 8);
        due("the sixth holds", x.told(5), 5);
        due("RISE", x.told(3), 5);
        says("Promise 8", "-10 less the FAULT (the one that held holds)");
        due("none held", scaffold("rise 9;rest 9;pull 9;"), -31);
        due("none holds: RISE", x.told(3), 5);
        due("none holds: REST", x.told(4), 3);
        due("none holds: PULL", x.told(5), 40);
        men(0, 0);
        due("the first", scaffold("rise 1;rest 2;slow 30 m=0"), 0);
        due("a FAULT", scaffold("rise 9;rest 9;pull 9;slow 9 m=0;"), -42);
        due("the first holds: RISE", x.told(3), 1);
        due("the first holds: REST", x.told(4), 2);
        due("the first holds: PULL", x.told(5), 40);
        due("the first holds: PACE", x.of(0, 5), 38);
        due("THE TEXT is empty then", x.count(4), 0);
        due("how many", x.count(1), 1);
        due("the second", scaffold("pull 7"), 1);
        due("nothing is left of the one with the FAULT: RISE", x.told(3), 5);
        due("nothing is left of the one with the FAULT: PACE", x.of(0, 5), 8);
        says("Promise 9", "What 0 .. 5, 10 and k the k-th of THE CHAIN. NONE");
        for (int what : new int[] {-1, 6, 7, 8, 9, 10, 16, MIN, MIN + 9, MAX}) {
            due("nobody: told(" + what + ")", x.told(what), NONE);
        }
        men(0, 0, 0, 0, 0, 0, 0, 0, 0, 0, 0, 0);
        due("10", x.told(10), 0);
        due("15", x.told(15), 5);
        for (int what : new int[] {-1, 6, 7, 8, 9, 16, 17, MIN, MIN + 9, MAX}) {
            due("told(" + what + ")", x.told(what), NONE);
        }
    }

    // ---- Promises 10 and 11

    /** TENTH becomes 999999 less so many. */
    private static void nearTheEnd(int less) {
        for (int i = 0; i < 100; i++) {
            x.pause(9999);
        }
        due("TENTH", x.pause(99 - less), 999999 - less);
    }

    private static void throwsAndPauses() {
        says("Promise 10", "when the TUBE is UP, less when it was thrown; -10 less the number of who lets it fall");
        men(0, 0, 0, 0, 0, 0, 0, 0, 0, 0, 5, 0);
        x.pause(500);
        due("up", x.up(99), 5 * 13 + 10 + 5 + 5);
        due("falls at the sixth", x.up(99), -15);
        due("the first is still at it", x.up(1), 5 * 13 + 10 + 5 + 5);
        due("falls at the first", x.up(1), -10);
        says("Promise 10", "... the number of who lets it fall, wherever he stands");
        men(0, 0, 0, 0, 5, 0);
        x.place(2, 0);
        due("takes it", x.up(99), 46);
        due("lets it slip", x.up(99), -12);
        due("takes it", x.up(1), 46);
        due("is not free", x.up(1), -12);
        x.place(2, 2);
        due("the first of them is not free", x.up(1), -10);
        says("Promise 10", "BAD: b (1 .. 99); BAD goes ahead of STATE");
        nearTheEnd(0);
        for (int b : new int[] {0, 100, -1, MIN, MAX}) {
            due("up(" + b + ")", x.up(b), BAD);
        }
        due("STATE", x.up(1), STATE);
        due("STATE", x.up(99), STATE);
        says("Promise 10", "STATE: TENTH would be above 999999");
        men(0, 0);
        nearTheEnd(50);
        due("would be 1000000", x.up(51), STATE);
        due("as it was: TENTH", x.told(0), 999949);
        due("as it was: UP", x.told(1), 0);
        due("as it was: HELD", x.of(0, 2), 0);
        due("as it was: FREE", x.of(0, 3), 0);
        due("is 999999", x.up(50), 18);
        due("TENTH", x.told(0), 999999);
        due("FREE may be above", x.of(0, 3), 999965);
        due("would be above", x.up(1), STATE);
        says("Promise 10", "STATE: UP is 9999 (which takes more than 512 calls)");
        for (int n = 1; n <= 9999; n++) {
            x.up(1);
        }
        due("UP", x.told(1), 9999);
        due("STATE", x.up(1), STATE);
        due("BAD, STATE", x.up(0), BAD);
        due("TENTH", x.told(0), 9999);
        says("Promise 10", "STATE: FALLEN is 9999 (which takes more than 512 calls)");
        men(0, 0);
        scaffold("slow 99 m=0;slow 99 m=0");
        x.up(1);
        for (int n = 1; x.told(2) < 9999 && n < 99999; n++) {
            x.up(1);
        }
        due("FALLEN", x.told(2), 9999);
        due("UP is not", x.told(1) < 9999 ? 1 : 0, 1);
        int tenth = x.told(0);
        due("STATE", x.up(1), STATE);
        due("STATE", x.up(99), STATE);
        due("TENTH", x.told(0), tenth);
        says("Promise 11", "TENTH is n (0 .. 9999) more. BAD");
        due("0", x.pause(0), 0);
        due("9999", x.pause(9999), 9999);
        for (int n : new int[] {-1, 10000, MIN, MAX}) {
            due("pause(" + n + ")", x.pause(n), BAD);
        }
        due("TENTH", x.told(0), 9999);
        says("Promise 11", "STATE: it would be above 999999");
        nearTheEnd(1);
        due("would be 1000000", x.pause(2), STATE);
        due("TENTH", x.told(0), 999998);
        due("is 999999", x.pause(1), 999999);
        due("0 more", x.pause(0), 999999);
        due("1 more", x.pause(1), STATE);
        due("9999 more", x.pause(9999), STATE);
        due("BAD, STATE", x.pause(10000), BAD);
        due("BAD, STATE", x.pause(-1), BAD);
    }

    // ---- Terms 2, and promises 12 to 14

    private static void onSoMany() {
        says("Terms 2", "goes on from how all is: TENTHS also beyond 999999");
        men(0, 0);
        nearTheEnd(0);
        due("how many", x.on(30, 99, 0), 30);
        due("when", x.on(30, 99, 1), 29 * 99 + 18);
        due("who", x.on(30, 10, 2), 0);
        due("safe", x.safe(20), 11);
        due("rested", x.rested(3, 6, 5), 1);
        says("Terms 2", "... HELD beyond 9999");
        men(5, 1);
        x.held(0, 9999);
        due("10000 and 10001 are not multiples of 3, 10002 is", x.on(3, 99, 0), 2);
        due("so", x.on(2, 99, 0), 2);
        due("changes nothing", x.of(0, 2), 9999);
        says("Terms 2", "... HELD beyond 9999, when it is 40 more");
        men(5, 5);
        x.held(0, 9999);
        x.see(5);
        x.see(12);
        x.see(19);
        due("10045, 10052 and 10059 are the multiples of 7", x.who(99), 1);
        due("changes nothing", x.of(0, 2), 9999);
        says("Terms 2", "ON n TUBES (0 .. 30). NONE; BAD: n, b");
        men(0, 0);
        due("none: how many", x.on(0, 1, 0), 0);
        due("none: when", x.on(0, 1, 1), 0);
        due("none: who", x.on(0, 1, 2), -5);
        due("none: how many that one", x.on(0, 1, 3), 0);
        due("30", x.on(30, 1, 0), 3);
        due("30", x.on(30, 1, 3), 27);
        due("99", x.on(2, 99, 1), 117);
        for (int n : new int[] {-1, 31, MIN, MAX}) {
            due("on(" + n + ", 1, 0)", x.on(n, 1, 0), BAD);
            due("on(" + n + ", 1, 4)", x.on(n, 1, 4), NONE);
        }
        for (int b : new int[] {0, 100, -1, MIN, MAX}) {
            due("on(0, " + b + ", 3)", x.on(0, b, 3), BAD);
            due("on(0, " + b + ", -1)", x.on(0, b, -1), NONE);
        }
        for (int what : new int[] {-1, 4, MIN, MAX}) {
            due("on(1, 1, " + what + ")", x.on(1, 1, what), NONE);
        }
        says("Terms 2", "when the latest one that comes UP is so, less TENTH as it is now (0: none does)");
        men(0, 0);
        x.up(1);
        due("none comes UP", x.on(10, 1, 1), 0);
        due("none comes UP", x.on(10, 1, 0), 0);
        due("the eleventh does", x.on(11, 1, 1), 28);
        due("the twelfth is not UP", x.on(12, 1, 1), 28);
        says("Terms 2", "... the latest is not the last thrown");
        men(0, 0);
        scaffold("slow 60 h=0");
        x.pause(777);
        due("the first needs 78, the second is thrown 71 later and needs 18", x.on(2, 71, 1), 89);
        due("the first is later than the second", x.on(2, 60, 1), 78);
        x = new TubeChain();
        scaffold("rise 0");
        due("UP at once", x.on(1, 1, 1), 0);
        due("UP at once, how many", x.on(1, 1, 0), 1);
        says("Terms 2", "who lets most fall (of several the least number; -5: none falls)");
        men(5, 1, 5, 1, 5, 1);
        x.place(2, 0);
        x.place(1, 0);
        due("none falls", x.on(2, 99, 2), -5);
        due("none falls", x.on(2, 99, 3), 0);
        due("one alone", x.on(3, 99, 2), 1);
        due("one each of 1 and 2", x.on(4, 99, 2), 1);
        due("one each", x.on(5, 99, 2), 0);
        due("one each", x.on(5, 99, 3), 1);
        due("two of 1", x.on(6, 99, 2), 1);
        due("two of 1", x.on(6, 99, 3), 2);
    }

    private static void beats() {
        says("Terms 2", "SAFE of n TUBES (1 .. 20): the least BEAT with which none falls");
        due("nobody", x.safe(20), 1);
        men(0, 0);
        due("one TUBE", x.safe(1), 1);
        due("20", x.safe(20), 11);
        for (int n : new int[] {0, 21, -1, MIN, MAX}) {
            due("safe(" + n + ")", x.safe(n), BAD);
        }
        scaffold("slow 88 m=0");
        due("99 is the last", x.safe(20), 99);
        says("Terms 2", "SAFE (-5: none)");
        men(0, 0);
        scaffold("slow 89 m=0");
        due("100 would be", x.safe(2), -5);
        due("one TUBE", x.safe(1), 1);
        says("Terms 2", "SAFE: a quicker one may be safe where a slower one is not");
        men(5, 0);
        x.held(0, 1);
        due("the first slips at every BEAT", x.safe(1), -5);
        says("Terms 2", "BEST of n TUBES (1 .. 20): of several the least");
        due("nobody: all are alike", x.best(1, 0), 1);
        due("how many", x.best(1, 1), 1);
        due("20", x.best(20, 1), 20);
        for (int n : new int[] {0, 21, -1, MIN, MAX}) {
            due("best(" + n + ", 0)", x.best(n, 0), BAD);
            due("best(" + n + ", 1)", x.best(n, 1), BAD);
            due("best(" + n + ", 2)", x.best(n, 2), NONE);
        }
        for (int what : new int[] {-1, 2, MIN, MAX}) {
            due("best(1, " + what + ")", x.best(1, what), NONE);
        }
        says("Terms 2", "BEST: none comes UP");
        men(5, 0);
        x.held(0, 1);
        due("the first slips", x.best(1, 0), 1);
        due("how many", x.best(1, 1), 0);
        says("Terms 2", "BEST: the BEATS 1 .. 99");
        men(0, 0);
        scaffold("slow 88 m=0");
        due("99", x.best(2, 0), 99);
        due("both", x.best(2, 1), 2);
        scaffold("slow 89 m=0");
        due("no BEAT takes both", x.best(2, 0), 1);
        due("one", x.best(2, 1), 1);
        says("Terms 2", "BEST: most come UP, of these the latest is UP soonest");
        men(5, 1);
        due("by 7 the first and third, the latest at 34; by 13 the first two at 33", x.best(3, 0), 13);
        due("two", x.best(3, 1), 2);
        says("Terms 2", "BEST: ... not one with which fewer come UP sooner");
        men(5, 1, 0, 0);
        scaffold("slow 50 m=0&h=0;quick 7 m=0&h>0");
        // by 34 to 62 the second falls below, and the third comes UP; by 63 to 67 the second falls above, the third slips;
        // from 68 on the second comes UP
        due("two by 34", x.on(3, 34, 0), 2);
        due("the latest by 34", x.on(3, 34, 1), 94);
        due("one by 63", x.on(3, 63, 0), 1);
        due("the latest by 63", x.on(3, 63, 1), 83);
        due("two by 68", x.on(3, 68, 0), 2);
        due("the latest by 68", x.on(3, 68, 1), 94);
        due("the first of the two", x.best(3, 0), 34);
        due("two", x.best(3, 1), 2);
        says("Terms 2", "SLOWEST: of several the first in THE CHAIN; -5: nobody is there");
        due("nobody", x.slowest(), -5);
        men(0, 0, 0, 0, 0, 0);
        due("all alike", x.slowest(), 0);
        x.place(2, 0);
        due("all alike", x.slowest(), 2);
        scaffold("slow 1 l=2");
        due("the last in THE CHAIN", x.slowest(), 1);
        scaffold("quick 99 m<9");
        due("all HOLD 1", x.slowest(), 2);
    }

    private static void orders() {
        says("Terms 2", "ORDER (4 MEN at most, else -9)");
        for (int n = 0; n <= 4; n++) {
            due("SAFE of " + n + " MEN", x.order(1, -1), 1);
            for (int k = 0; k <= 3; k++) {
                due("the " + k + "-th of " + n, x.order(1, k), k < n ? k : -5);
            }
            men(0, 0);
        }
        for (int more = 5; more <= 6; more++) {
            for (int k = -1; k <= 3; k++) {
                due(more + " MEN, k " + k, x.order(1, k), -9);
            }
            due(more + " MEN, no k", x.order(1, 4), NONE);
            due(more + " MEN, no n", x.order(9, 0), BAD);
            men(0, 0);
        }
        says("Terms 2", "ORDER of n TUBES (1 .. 8). NONE: k (-1 .. 3); BAD: n");
        men(0, 0);
        due("1", x.order(1, -1), 1);
        due("8", x.order(8, -1), 11);
        for (int n : new int[] {0, 9, -1, MIN, MAX}) {
            due("order(" + n + ", -1)", x.order(n, -1), BAD);
            due("order(" + n + ", 3)", x.order(n, 3), BAD);
            due("order(" + n + ", 4)", x.order(n, 4), NONE);
        }
        for (int k : new int[] {-2, 4, MIN, MAX}) {
            due("order(1, " + k + ")", x.order(1, k), NONE);
        }
        says("Terms 2", "ORDER of 8 TUBES, not 7");
        men(5, 6);
        due("the eighth slips", x.order(8, -1), -5);
        due("seven do not", x.order(7, -1), 13);
        says("Terms 2", "ORDER: of several the first as a row");
        men(0, 0, 0, 0, 0, 0, 0, 0);
        x.place(3, 0);
        x.place(2, 1);
        x.place(1, 2);
        for (int k = 0; k <= 3; k++) {
            due("all alike", x.order(8, k), k);
        }
        scaffold("slow 9 m=0&l<2|m=3&l=0");
        int[] row = {1, 2, 0, 3};
        for (int k = 0; k <= 3; k++) {
            due("the first without the slow ones", x.order(2, k), row[k]);
        }
        chain(3, 2, 1, 0);
        says("Terms 2", "ORDER: none counts as 100, SAFE (-5: none)");
        men(0, 0, 0, 0);
        scaffold("slow 88 l=0&m=1;slow 89 l=0&m=0");
        due("99 is less than none", x.order(2, -1), 99);
        due("the second first", x.order(2, 0), 1);
        due("then the first", x.order(2, 1), 0);
        due("there are fewer", x.order(2, 2), -5);
        scaffold("slow 89 l=0");
        due("none by any row", x.order(2, -1), -5);
        due("the first row", x.order(2, 0), 0);
        due("the first row", x.order(2, 1), 1);
        scaffold("slow 90 l=0&m=0;slow 89 l=0&m=1");
        due("100 is no BEAT", x.order(2, -1), -5);
        due("100 is not less than none", x.order(2, 0), 0);
        says("Terms 2", "ORDER: the very last row as well");
        men(0, 0, 0, 0, 0, 0, 0, 0);
        scaffold("slow 9 !(l=0&m=3|l=1&m=2|l=2&m=1|l=3&m=0)");
        for (int k = 0; k <= 3; k++) {
            due("the last row", x.order(3, k), 3 - k);
        }
        due("SAFE", x.order(3, -1), 11);
        says("Terms 2", "WITHOUT of a MAN and n TUBES (1 .. 30) with b. NONE; BAD: n, b");
        due("nobody", x.without(0, 1, 1), NONE);
        men(0, 0);
        due("1", x.without(0, 1, 1), 1);
        due("30", x.without(0, 30, 99), 30);
        for (int n : new int[] {0, 31, -1, MIN, MAX}) {
            due("without(0, " + n + ", 1)", x.without(0, n, 1), BAD);
            due("without(1, " + n + ", 1)", x.without(1, n, 1), NONE);
        }
        for (int b : new int[] {0, 100, -1, MIN, MAX}) {
            due("without(0, 1, " + b + ")", x.without(0, 1, b), BAD);
            due("without(-1, 1, " + b + ")", x.without(-1, 1, b), NONE);
        }
        for (int man : new int[] {-1, 1, 6, MIN, MAX}) {
            due("without(" + man + ", 1, 1)", x.without(man, 1, 1), NONE);
        }
        says("Terms 2", "WITHOUT: the first, the last of THE CHAIN, each place moves down");
        men(0, 0, 0, 0, 0, 0);
        scaffold("slow 50 l=2");
        due("as they are", x.on(2, 20, 0), 1);
        for (int man = 0; man < 3; man++) {
            due("without " + man, x.without(man, 2, 20), 2);
        }
        scaffold("slow 50 l=1&m>0");
        due("without the first", x.without(0, 2, 20), 1);
        due("without the second", x.without(1, 2, 20), 1);
        due("without the last", x.without(2, 2, 20), 1);
        scaffold("slow 50 l=0&m=1");
        due("without the first", x.without(0, 2, 20), 1);
        due("without the second", x.without(1, 2, 20), 2);
        chain(0, 1, 2);
    }

    // ---- Promises 18 to 21

    private static void pulleys() {
        says("Terms 2", "PULLEY of n TUBES (1 .. 30) with b. -100002: BAD: n, b");
        due("nobody: 40 less 5", x.pulley(1, 1), 35);
        due("nobody: 30 times 40 less 29 times 99 and 5", x.pulley(30, 99), 1200 - 2876);
        for (int n : new int[] {0, 31, -1, MIN, MAX}) {
            due("pulley(" + n + ", 1)", x.pulley(n, 1), -100002);
        }
        for (int b : new int[] {0, 100, -1, MIN, MAX}) {
            due("pulley(1, " + b + ")", x.pulley(1, b), -100002);
        }
        says("Terms 2", "PULLEY: may be below 0");
        men(0, 0);
        scaffold("pull 12");
        due("12 and 5 less 18", x.pulley(1, 99), -1);
        scaffold("pull 13");
        due("13 and 5 less 18", x.pulley(1, 99), 0);
        scaffold("pull 14");
        due("14 and 5 less 18", x.pulley(1, 99), 1);
        says("Terms 2", "PULLEY: RISE times how many MEN there are");
        men(0, 0, 0, 0, 0, 0, 0, 0, 0, 0, 0, 0);
        scaffold("rise 9");
        due("40 and 6 times 9, less 9 and 6 times 17", x.pulley(1, 1), 40 + 54 - 111);
        says("Terms 2", "PULLEY: -100001: one falls");
        men(0, 0);
        due("the second falls", x.pulley(2, 10), -100001);
        due("none falls", x.pulley(2, 11), 80 + 5 - 29);
        due("the thirtieth and others", x.pulley(30, 1), -100001);
        says("Terms 2", "FROM of b: the least n (1 .. 30): PULLEY is above 0. BAD");
        due("nobody: at once", x.from(1), 1);
        due("nobody: at once", x.from(99), 1);
        for (int b : new int[] {0, 100, -1, MIN, MAX}) {
            due("from(" + b + ")", x.from(b), BAD);
        }
        scaffold("rise 29;pull 2");
        due("29: 58 less 57", x.from(1), 29);
        scaffold("rise 30;pull 2");
        due("30: 60 less 59", x.from(1), 30);
        scaffold("rise 31;pull 2");
        due("31 is beyond", x.from(1), -5);
        says("Terms 2", "FROM: a PULLEY of 0 is not above 0");
        men(0, 0);
        scaffold("pull 13");
        due("0 at 1, 2 at 2", x.from(11), 2);
        scaffold("pull 14");
        due("1 at 1", x.from(11), 1);
        scaffold("pull 11");
        due("-2 for ever", x.from(11), -5);
        says("Terms 2", "FROM: no TUBE falls");
        men(0, 0);
        scaffold("pull 13");
        due("the second falls ahead of it", x.from(10), -5);
        scaffold("pull 12");
        due("-1, 0, 1", x.from(11), 3);
        x.up(1);
        due("the first falls", x.from(9), -5);
    }

    private static void rests() {
        says("Terms 2", "RESTED of n TUBES (1 .. 20) with b and r (1 .. 60). BAD: n, b, r");
        men(0, 0);
        due("1 TUBE", x.rested(1, 1, 1), 20);
        due("20 TUBES, 99", x.rested(20, 99, 1), 20);
        due("60", x.rested(20, 1, 60), 1);
        for (int n : new int[] {0, 21, -1, MIN, MAX}) {
            due("rested(" + n + ", 99, 1)", x.rested(n, 99, 1), BAD);
        }
        for (int b : new int[] {0, 100, -1, MIN, MAX}) {
            due("rested(1, " + b + ", 1)", x.rested(1, b, 1), BAD);
        }
        for (int r : new int[] {0, 61, -1, MIN, MAX}) {
            due("rested(1, 1, " + r + ")", x.rested(1, 1, r), BAD);
        }
        says("Terms 2", "RESTED: the greatest j (1 .. 20) such that none falls (-5: none)");
        men(0, 0);
        due("10 and 1 are enough, if behind each", x.rested(2, 10, 1), 1);
        due("10 and 1 are enough, if behind each", x.rested(20, 10, 1), 1);
        due("9 and 1 are not", x.rested(2, 9, 1), -5);
        scaffold("slow 60 m=0");
        due("11 and 60 are enough", x.rested(20, 11, 60), 1);
        due("10 and 60 are not", x.rested(20, 10, 60), -5);
        says("Terms 2", "RESTED: behind each THROW whose number from now (1, 2 ..) is a multiple of j");
        men(0, 0);
        scaffold("slow 1 h=9");
        x.held(0, 0);
        due("the tenth HOLDS 9: behind 10, 5, 2 or 1", x.rested(20, 11, 1), 10);
        x.held(0, 8);
        due("the second HOLDS 9, the twelfth as well: behind 2", x.rested(20, 11, 1), 2);
        due("only the second: behind 2", x.rested(11, 11, 1), 2);
        x.held(0, 9);
        due("the first: behind each", x.rested(20, 11, 1), 1);
        scaffold("slow 1 t=1&h=9");
        x.held(0, 1);
        due("the nineteenth: behind 19", x.rested(20, 11, 1), 19);
        due("19 TUBES: none of them", x.rested(19, 11, 1), 20);
        x.held(0, 0);
        due("the twentieth: none of them", x.rested(20, 11, 1), 20);
    }

    private static void changes() {
        says("Terms 2", "CHANGE of n TUBES (1 .. 30) with b. BAD: n, b");
        due("nobody", x.change(1, 1), -5);
        due("nobody", x.change(30, 99), -5);
        for (int n : new int[] {0, 31, -1, MIN, MAX}) {
            due("change(" + n + ", 1)", x.change(n, 1), BAD);
        }
        for (int b : new int[] {0, 100, -1, MIN, MAX}) {
            due("change(1, " + b + ")", x.change(1, b), BAD);
        }
        men(0, 0);
        due("one alone", x.change(30, 1), -5);
        says("Terms 2", "CHANGE: most come UP, if more than as they are (-5: none)");
        men(0, 0, 0, 0);
        scaffold("slow 50 l=1&m=1");
        due("1 as they are, 2 by the change", x.change(2, 20), 1);
        due("1 as they are, 1 by the change", x.change(1, 20), -5);
        x.place(1, 0);
        due("2 as they are, 1 by the change", x.change(2, 20), -5);
        chain(1, 0);
        says("Terms 2", "CHANGE: 10 times the lesser place, and the greater");
        for (int p = 0; p < 6; p++) {
            for (int q = p + 1; q < 6; q++) {
                x = new TubeChain();
                men(0, 0, 0, 0, 0, 0, 0, 0, 0, 0, 0, 0);
                // only who stands at the one place now is not slow at the other
                scaffold("slow 50 l=" + p + "&!m=" + q);
                due("places " + p + " and " + q, x.change(2, 20), 10 * p + q);
            }
        }
        says("Terms 2", "CHANGE: the places, not the MEN");
        men(0, 0, 0, 0, 0, 0);
        x.place(2, 0);
        scaffold("slow 50 l=2&m=1");
        due("of several the first", x.change(2, 20), 2);
        scaffold("slow 50 l=2&!m=0");
        due("0 is at place 1", x.change(2, 20), 12);
        says("Terms 2", "CHANGE: of several the first, but the most goes ahead");
        men(0, 0, 0, 0, 0, 0);
        scaffold("slow 50 l=2&m=2;slow 9 l=0&m=2");
        due("by 0 and 2 two of three, by 1 and 2 three", x.change(3, 15), 12);
        says("Terms 2", "CHANGE of 30 TUBES");
        men(5, 9, 0, 0);
        scaffold("slow 50 m=9");
        due("alike by either", x.change(30, 99), -5);
    }

    // ---- Promises 22 to 27

    private static void seen() {
        says("Promise 22", "numbers of TUBES (0 .. 19; 6 at most, one may be there again). BAD; FULL: 6");
        due("0", x.see(0), 1);
        due("19", x.see(19), 2);
        due("19 again", x.see(19), 3);
        for (int tube : new int[] {-2, 20, MIN, MAX}) {
            due("see(" + tube + ")", x.see(tube), BAD);
        }
        due("the fourth", x.see(19), 4);
        due("the fifth", x.see(19), 5);
        due("the sixth", x.see(19), 6);
        due("the seventh", x.see(19), FULL);
        due("the seventh", x.see(5), FULL);
        due("BAD, FULL", x.see(20), BAD);
        due("BAD, FULL", x.see(-2), BAD);
        due("SEEN", x.count(2), 6);
        says("Promise 22", "(-1: none then, 0)");
        due("empty", x.see(-1), 0);
        for (int n = 1; n <= 6; n++) {
            x.see(n);
        }
        due("full", x.see(-1), 0);
        due("SEEN", x.count(2), 0);
        due("the first", x.see(7), 1);
        says("Terms 2", "WHO of b: those MEN, as bits. BAD");
        due("nobody", x.who(1), 0);
        due("nobody", x.who(99), 0);
        for (int b : new int[] {0, 100, -1, MIN, MAX}) {
            due("who(" + b + ")", x.who(b), BAD);
        }
        men(0, 0, 0, 0, 0, 0, 0, 0, 0, 0, 0, 0);
        due("all six", x.who(99), 63);
        x.see(1);
        due("none of them", x.who(99), 0);
        says("Terms 2", "WHO: were HELD of that one 40 more now");
        men(0, 0, 0, 0);
        scaffold("slow 1 m=1&t=4&h=0");
        x.see(1);
        due("HELD 40 HOLDS 9, once: the second falls", x.who(11), 2);
        scaffold("slow 1 m=1&t=3&h=9");
        due("HELD 39 does not matter", x.who(11), 0);
        x.see(-1);
        due("nobody falls", x.who(11), 3);
        scaffold("slow 1 m=0&t=5&h=9");
        x.see(-1);
        x.see(0);
        due("HELD 59 is the last, none falls behind it", x.who(11), 0);
        says("Terms 2", "WHO: the next 20 TUBES with b, numbers from 0 on");
        men(0, 0);
        scaffold("slow 1 t=5&h=8");
        x.see(19);
        due("HELD 58 is the nineteenth: the twentieth falls", x.who(11), 1);
        x.see(18);
        due("just those", x.who(11), 0);
        x.see(-1);
        scaffold("slow 1 t=5&h=9");
        due("HELD 59 is the twentieth: none falls", x.who(11), 1);
        says("Terms 2", "WHO: the first TUBE is 0");
        men(5, 0);
        x.held(0, 1);
        for (int tube = 0; tube < 6; tube++) {
            x.see(2 * tube);
        }
        due("six are not ten", x.who(99), 0);
        x = new TubeChain();
        men(5, 2);
        x.held(0, 3);
        for (int tube : new int[] {0, 4, 8, 12, 16}) {
            x.see(tube);
        }
        due("each fourth", x.who(99), 1);
        x.see(16);
        due("one may be there again", x.who(99), 1);
    }

    private static void odds() {
        says("Terms 2", "ODDS (NO: nobody is there)");
        due("nobody", x.odds(1, 1, 0), NO);
        due("nobody", x.odds(20, 99, 1), NO);
        men(0, 0);
        due("somebody", x.odds(1, 1, 0), 1);
        due("somebody", x.odds(1, 1, 1), 1);
        says("Terms 2", "ODDS of n TUBES (1 .. 20) with b; part 0 above, 1 below the line. NO");
        men(0, 0);
        due("20, 99", x.odds(20, 99, 0), 1);
        for (int n : new int[] {0, 21, -1, MIN, MAX}) {
            due("odds(" + n + ", 99, 0)", x.odds(n, 99, 0), NO);
        }
        for (int b : new int[] {0, 100, -1, MIN, MAX}) {
            due("odds(1, " + b + ", 0)", x.odds(1, b, 0), NO);
        }
        for (int part : new int[] {-1, 2, MIN, MAX}) {
            due("odds(1, 1, " + part + ")", x.odds(1, 1, part), NO);
        }
        says("Terms 2", "ODDS: a fraction in lowest terms");
        int[][] above = {{1}, {0, 1}, {0, 1, 1}, {0, 1, 2, 1}, {0, 1, 1, 3, 1}, {0, 1, 2, 3, 4, 1}, {0, 1, 1, 1, 2, 5, 1}};
        int[][] below = {{1}, {1, 1}, {1, 2, 1}, {1, 3, 3, 1}, {1, 4, 2, 4, 1}, {1, 5, 5, 5, 5, 1}, {1, 6, 3, 2, 3, 6, 1}};
        for (int all = 1; all <= 6; all++) {
            for (int good = 0; good <= all; good++) {
                x = new TubeChain();
                for (int man = 0; man < all; man++) {
                    // by 11 none falls, but by 40 more a TIRING one HOLDS 5 longer
                    x.man(man < good ? 0 : 3, 0);
                }
                due(good + " of " + all + ", above", x.odds(2, 11, 0), above[all][good]);
                due(good + " of " + all + ", below", x.odds(2, 11, 1), below[all][good]);
            }
        }
        says("Terms 2", "ODDS: of the 20th TUBE as well");
        men(0, 0);
        scaffold("slow 1 t=5&h=8");
        due("20", x.odds(20, 11, 0), 0);
        due("19", x.odds(19, 11, 0), 1);
        says("Terms 2", "MEAN of n TUBES (1 .. 20). NO: n, part");
        due("1", x.mean(1, 0), 1);
        due("20", x.mean(20, 0), 20);
        due("below", x.mean(20, 1), 1);
        for (int n : new int[] {0, 21, -1, MIN, MAX}) {
            due("mean(" + n + ", 0)", x.mean(n, 0), NO);
            due("mean(" + n + ", 1)", x.mean(n, 1), NO);
        }
        for (int part : new int[] {-1, 2, MIN, MAX}) {
            due("mean(1, " + part + ")", x.mean(1, part), NO);
        }
        says("Terms 2", "MEAN: with BEATS 1, 2 .. 20, together, by 20: a fraction in lowest terms");
        for (int least = 11; least <= 21; least++) {
            x = new TubeChain();
            men(0, 0);
            scaffold("slow " + (least - 11) + " m=0");
            int sum = 20 + 21 - least;
            int divisor = sum % 20 == 0 ? 20 : sum % 10 == 0 ? 10 : sum % 5 == 0 ? 5 : sum % 4 == 0 ? 4 : sum % 2 == 0 ? 2 : 1;
            due("both from " + least + " on, above", x.mean(2, 0), sum / divisor);
            due("both from " + least + " on, below", x.mean(2, 1), 20 / divisor);
        }
        says("Terms 2", "MEAN: with BEAT 1 as well; none comes UP");
        men(0, 0);
        scaffold("quick 99 m=0;rest 0");
        due("both by each", x.mean(2, 0), 2);
        due("both by each", x.mean(2, 1), 1);
        scaffold("quick 99 m=0;rest 1");
        due("both but by 1", x.mean(2, 0), 39);
        due("both but by 1", x.mean(2, 1), 20);
        scaffold("slow 99 m=0;rest 99");
        x.up(1);
        due("none", x.mean(10, 0), 0);
        due("none", x.mean(10, 1), 1);
    }

    private static void books() {
        says("Promise 26", "numbers of TUBES (0 .. 19), 8 at most. BAD: tube; FULL: 8");
        due("0", x.book(0, false), 1);
        due("19", x.book(19, true), 2);
        for (int tube : new int[] {-2, 20, MIN, MAX}) {
            due("book(" + tube + ", true)", x.book(tube, true), BAD);
            due("book(" + tube + ", false)", x.book(tube, false), BAD);
        }
        for (int n = 3; n <= 8; n++) {
            due("the next", x.book(19, false), n);
        }
        due("the ninth", x.book(0, true), FULL);
        due("the ninth", x.book(19, false), FULL);
        due("BAD, FULL", x.book(20, true), BAD);
        due("BAD, FULL", x.book(-2, true), BAD);
        due("of the BOOK", x.count(3), 8);
        says("Promise 26", "(tube -1: it is empty then, 0, whatever the other is)");
        due("empty", x.book(-1, true), 0);
        due("empty", x.book(-1, false), 0);
        for (int n = 1; n <= 8; n++) {
            x.book(n, true);
        }
        due("full", x.book(-1, true), 0);
        due("of the BOOK", x.count(3), 0);
        due("the first", x.book(3, true), 1);
        due("empty", x.book(-1, false), 0);
        due("the first", x.book(3, true), 1);
        says("Terms 2", "LOOKED of b. BAD; -5");
        due("empty", x.looked(1), -5);
        due("empty", x.looked(99), -5);
        for (int b : new int[] {0, 100, -1, MIN, MAX}) {
            due("looked(" + b + ")", x.looked(b), BAD);
        }
        says("Terms 2", "LOOKED: the number of the first of these rows by which it is otherwise");
        men(5, 18);
        men(5, 9);
        for (int n = 0; n < 7; n++) {
            x.book(n, true);
        }
        x.book(10, false);
        due("all as told", x.looked(99), -5);
        x.book(-1, false);
        for (int n = 0; n < 7; n++) {
            x.book(n, true);
        }
        x.book(10, true);
        due("the eighth row", x.looked(99), 7);
        x.book(-1, false);
        x.book(0, false);
        x.book(10, true);
        due("the first of two", x.looked(99), 0);
        says("Terms 2", "LOOKED: the next 20 TUBES");
        men(0, 0);
        scaffold("slow 1 t=1&h=8");
        x.book(18, true);
        x.book(19, false);
        due("the twentieth falls", x.looked(11), -5);
        x.book(-1, true);
        x.book(19, true);
        due("the twentieth falls", x.looked(11), 0);
        x.book(-1, true);
        x.book(0, true);
        due("the first comes UP", x.looked(11), -5);
        x.book(0, false);
        due("told both ways", x.looked(11), 1);
    }

    // ---- Terms 3, and promises 28 to 38

    private static void judging() {
        says("Promise 28", "NONE: tape; CAST: it is no row of ints");
        men(0, 0);
        for (int tape : new int[] {-1, 6, MIN, MAX}) {
            due("judge(" + tape + ", 0)", x.judge(tape, 0), NONE);
        }
        for (int sort = 0; sort <= 4; sort++) {
            x.tape(sort, sort, 1);
            due("sort " + sort, x.judge(sort, 0), sort == 2 ? -5 : CAST);
            due("sort " + sort + ", no place", x.judge(sort, -1), sort == 2 ? 100 : CAST);
            due("sort " + sort + ", beyond", x.judge(sort, 1), sort == 2 ? 100 : CAST);
            x.tape(sort, sort, 0);
            due("sort " + sort + ", no items", x.judge(sort, 0), sort == 2 ? 100 : CAST);
        }
        due("the last TAPE", x.judge(5, 0), 100);
        says("Terms 3", "-5: none, or there is none to look at");
        x.tape(1, 2, 0);
        x.tape(3, 3, 1);
        due("nobody, nothing", x.judge(0, 0), -5);
        due("nobody, nothing, no place", x.judge(0, -1), -5);
        due("nobody, no items", x.judge(1, 0), -5);
        due("nobody, no place", x.judge(1, -1), -5);
        due("nobody, beyond", x.judge(1, 99), -5);
        due("nobody, CAST", x.judge(3, 0), CAST);
        due("nobody, NONE", x.judge(6, 0), NONE);
        says("Terms 3", "FREE MAN by MAN: the first that is otherwise");
        men(0, 0, 0, 0, 0, 0, 0, 0, 0, 0, 0, 0);
        x.place(5, 0);
        x.up(99);
        int[] free = {29, 42, 55, 68, 81, 16};
        x.tape(0, 2, 60);
        for (int man = 0; man < 6; man++) {
            due("FREE", x.of(man, 3), free[man]);
            x.item(0, man, free[man]);
            x.item(0, 54 + man, free[man]);
        }
        due("none, at the start", x.judge(0, 0), -5);
        due("none, at the end", x.judge(0, 54), -5);
        for (int man = 5; man >= 0; man--) {
            x.item(0, man, free[man] + 1);
            due("the first is " + man, x.judge(0, 0), man);
        }
        says("Terms 3", "100 and how many were looked at, if the row ends ahead of that");
        men(0, 0, 0, 0, 0, 0);
        due("holds nothing", x.judge(0, 0), 100);
        due("holds nothing, beyond", x.judge(0, 60), 100);
        for (int length = 0; length <= 3; length++) {
            x.tape(0, 2, length);
            due("length " + length, x.judge(0, 0), length < 3 ? 100 + length : -5);
        }
        due("from 1 on", x.judge(0, 1), 102);
        due("from 2 on", x.judge(0, 2), 101);
        due("from 3 on", x.judge(0, 3), 100);
        due("from 4 on", x.judge(0, 4), 100);
        x.item(0, 2, 1);
        due("otherwise goes ahead of the end", x.judge(0, 2), 0);
        due("otherwise goes ahead of the end", x.judge(0, 1), 1);
        says("Terms 3", "... (or the place is below 0)");
        men(0, 0, 0, 0);
        x.tape(0, 2, 60);
        due("-1", x.judge(0, -1), 100);
        due("the least", x.judge(0, MIN), 100);
        due("the greatest", x.judge(0, MAX), 100);
        due("the greatest but one, which wraps", x.judge(0, MAX - 1), 100);
        x.tape(0, -1, 0);
        due("holds nothing any more", x.judge(0, 0), 100);
    }

    private static void images() {
        says("Promise 29", "THE IMAGE is taken: how many MEN there are");
        due("nobody", x.image(), 0);
        men(0, 0, 0, 0, 0, 0, 0, 0, 0, 0, 0, 0);
        due("six", x.image(), 6);
        says("Promise 30", "STATE: there is none");
        due("undo", x.undo(), STATE);
        men(0, 0);
        due("undo", x.undo(), STATE);
        due("MEN", x.count(0), 1);
        due("image", x.image(), 1);
        due("undo", x.undo(), 1);
        says("Promise 30", "All is as THE IMAGE: nobody then, six now");
        x.image();
        men(6, 1, 5, 2, 4, 3, 3, 4, 2, 5, 1, 6);
        x.see(1);
        x.book(1, true);
        x.up(9);
        due("undo", x.undo(), 0);
        due("MEN", x.count(0), 0);
        due("SEEN", x.count(2), 0);
        due("the BOOK", x.count(3), 0);
        due("TENTH", x.told(0), 0);
        due("UP", x.told(1), 0);
        due("first", x.told(10), NONE);
        due("of", x.of(0, 0), NONE);
        due("a first one", x.man(6, 3), 0);
        due("HELD", x.of(0, 2), 0);
        due("FREE", x.of(0, 3), 0);
        says("Promise 30", "All is as THE IMAGE: full then, empty now");
        men(0, 0, 0, 0, 0, 0, 0, 0, 0, 0, 5, 0);
        for (int n = 0; n < 8; n++) {
            x.book(0, true);
            x.see(n < 6 ? 3 * n + 1 : 0);
        }
        x.image();
        x.see(-1);
        x.book(-1, true);
        due("undo", x.undo(), 6);
        due("SEEN is full", x.see(0), FULL);
        due("the BOOK is full", x.book(0, true), FULL);
        due("MEN are full", x.man(0, 0), FULL);
        says("Promise 30", "THE IMAGE stays, and is not what goes on behind it");
        men(3, 0);
        x.image();
        for (int n = 0; n < 3; n++) {
            x.held(0, 500 + n);
            x.up(1);
            due("undo", x.undo(), 1);
            due("HELD", x.of(0, 2), 0);
            due("FREE", x.of(0, 3), 0);
            due("TENTH", x.told(0), 0);
        }
        says("Promise 30", "which SCAFFOLD holds: but there are still so many");
        men(0, 0);
        x.image();
        scaffold("rise 1;slow 1 m=0");
        x.undo();
        due("none holds", x.told(3), 5);
        due("none holds", x.of(0, 5), 8);
        due("the next", scaffold("rise 2;slow 2 m=0"), 1);
        x.image();
        for (int n = 2; n < 6; n++) {
            due("the next", scaffold("rise 3"), n);
        }
        x.undo();
        due("the second holds", x.told(3), 2);
        due("the second holds", x.of(0, 5), 10);
        due("there are 6", scaffold("rise 4"), FULL);
        due("there are 6", x.count(1), 6);
        says("Terms 2", "THE IMAGE is not of THE TEXT, TAPES, THE TRACE");
        men(0, 0);
        x.image();
        feed("rise");
        x.tape(0, 3, 1);
        x.item(0, 0, 5);
        x.act(0, 2, 1);
        due("undo", x.undo(), 1);
        due("THE TEXT", x.count(4), 4);
        due("a TAPE", x.read(0, 0), 5);
        due("THE TRACE", x.count(5), 3);
    }

    private static void acts() {
        says("Promise 31", "0, and no TRACE then: no such MAN, act");
        due("nobody", x.act(0, 0, 5), 0);
        men(0, 0);
        for (int man : new int[] {-1, 1, 6, MIN, MAX}) {
            x.act(0, 0, 5);
            due("bodies", x.count(5), 1);
            due("act(" + man + ", 0, 5)", x.act(man, 0, 5), 0);
            due("no TRACE then", x.trace(0), NONE);
            due("no TRACE then", x.count(5), 0);
        }
        for (int act : new int[] {-1, 3, MIN, MAX}) {
            x.act(0, 2, 5);
            due("bodies", x.count(5), 3);
            due("act(0, " + act + ", 5)", x.act(0, act, 5), 0);
            due("no TRACE then", x.trace(0), NONE);
            due("no TRACE then", x.count(5), 0);
        }
        says("Terms 2", "ACTS of a MAN with x (wrapping): each body of each KIND");
        men(0, 3, 1, 4, 2, 5, 3, 6, 4, 7, 5, 8);
        wrapped(0, 0, MAX, MAX);
        wrapped(0, 1, MIN, MAX - 2);
        wrapped(0, 2, 1 << 30, -6 + MIN);
        wrapped(0, 2, MIN, -6);
        wrapped(1, 0, MAX, MIN);
        wrapped(1, 1, MAX, (MAX - 3) ^ 6);
        wrapped(1, 2, MAX, 2 * ((MAX - 3) ^ 6));
        wrapped(2, 0, MAX, MAX);
        wrapped(2, 0, MIN, MIN + 2);
        wrapped(2, 0, 715827882, MIN);
        wrapped(2, 1, 715827883, MIN - 2);
        wrapped(3, 0, MAX, MIN + 2);
        wrapped(3, 1, MAX, MIN - 4);
        wrapped(3, 2, 0, -8);
        wrapped(3, 2, (1 << 30) + 3, MAX - 1);
        wrapped(4, 0, MAX - 3, MIN);
        wrapped(4, 0, MIN, MAX - 3);
        wrapped(4, 1, MAX, ((MAX - 3) - 7) ^ 6);
        wrapped(5, 0, MAX, MIN + 2);
        wrapped(5, 2, MIN, (3 * (MAX - 4) + 5 - 8) * 2);
        x = new TubeChain();
        men(6, 9);
        wrapped(0, 0, MAX, MAX ^ 9);
        wrapped(0, 1, MAX, (MAX ^ 9) - 9 + 2);
        wrapped(0, 1, MIN, (MIN ^ 9) - 9 + 2);
        wrapped(0, 2, MAX, 2 * ((MAX ^ 9) - 7) + ((1 ^ 9) - 7));
        says("Terms 2", "THE TRACE: the numbers of the bodies that ran in the latest act(), as they began");
        men(6, 0, 5, 0);
        trace(0, 2, 40, 12, 70, 11, 71, 10, 10, 70, 11, 71, 10, 10);
        trace(1, 2, 60, 12, 11, 30, 10);
        trace(1, 1, 11, 30, 10);
        trace(0, 0, 71, 10);
        trace(1, 0, 30, 10);
        says("Promise 32", "NONE");
        due("no act() yet", x.trace(0), NONE);
        men(6, 0);
        x.act(0, 2, 0);
        due("the first", x.trace(0), 40);
        due("the last", x.trace(11), 10);
        for (int i : new int[] {-1, 12, 19, 20, 21, MIN, MAX}) {
            due("trace(" + i + ")", x.trace(i), NONE);
        }
        says("Promise 33", "KIND k (0 .. 6). BAD: k; NOTHING: no such MAN; CAST");
        due("nobody", x.taken(0, 0), NOTHING);
        men(6, 0, 5, 0);
        due("0", x.taken(0, 0), 6);
        due("6", x.taken(0, 6), 6);
        for (int k : new int[] {-1, 7, MIN, MAX}) {
            due("taken(0, " + k + ")", x.taken(0, k), BAD);
            due("taken(2, " + k + ")", x.taken(2, k), BAD);
        }
        for (int man : new int[] {-1, 2, 6, MIN, MAX}) {
            due("taken(" + man + ", 0)", x.taken(man, 0), NOTHING);
        }
        due("not one under it", x.taken(1, 6), CAST);
        due("one beside it", x.taken(0, 5), CAST);
        says("Terms 1", "1 STRONG, 2 GLOVED, 3 TIRING under MAN; 4 CALLING under STRONG; 5 SLIPPING under GLOVED; 6 TOLD under TIRING");
        String[] under = {"0", "01", "02", "03", "014", "025", "036"};
        for (int kind = 0; kind <= 6; kind++) {
            x = new TubeChain();
            x.man(kind, 0);
            for (int k = 0; k <= 6; k++) {
                due("KIND " + kind + " taken for " + k, x.taken(0, k), under[kind].indexOf('0' + k) >= 0 ? kind : CAST);
            }
        }
    }

    private static void wrapped(int man, int act, int with, int want) {
        due("act(" + man + ", " + act + ", " + with + ")", x.act(man, act, with), want);
    }

    private static void trace(int man, int act, int... bodies) {
        x.act(man, act, 1);
        due("bodies of act(" + man + ", " + act + ", 1)", x.count(5), bodies.length);
        for (int i = 0; i < bodies.length; i++) {
            due("trace(" + i + ")", x.trace(i), bodies[i]);
        }
        due("behind the last", x.trace(bodies.length), NONE);
    }

    private static void counts() {
        says("Promise 34", "0 MEN, 1 SCAFFOLDS, 2 SEEN, 3 of the BOOK, 4 bytes of THE TEXT, 5 bodies that ran. BAD");
        int[] most = {6, 6, 6, 8, 100, 12};
        men(6, 0, 6, 0, 6, 0, 6, 0, 6, 0, 6, 0, 6, 0);
        for (int n = 0; n < 7; n++) {
            scaffold("rise 1");
            x.see(0);
        }
        for (int n = 0; n < 9; n++) {
            x.book(0, true);
        }
        for (int n = 0; n < 101; n++) {
            x.feed(0);
        }
        x.act(5, 2, 0);
        for (int what = 0; what <= 5; what++) {
            due("count(" + what + ")", x.count(what), most[what]);
        }
        for (int what : new int[] {-1, 6, 7, MIN, MAX}) {
            due("count(" + what + ")", x.count(what), BAD);
        }
    }

    private static void tapes() {
        says("Terms 3", "TAPES 0 .. 5 hold nothing (at first)");
        for (int tape = 0; tape <= 5; tape++) {
            due("read(" + tape + ", 0)", x.read(tape, 0), NO);
            due("item(" + tape + ", 0, 1)", x.item(tape, 0, 1), NOTHING);
            due("shift from it", x.shift(tape, 0, tape, 0, 0), NOTHING);
        }
        says("Promise 35", "a row of n (0 .. 60) of a sort, all 0. NONE: tape; BAD: sort, n above 60; SIZE");
        for (int sort = 0; sort <= 4; sort++) {
            due("60 of sort " + sort, x.tape(sort, sort, 60), 1);
            for (int i = 0; i < 60; i++) {
                due("all 0", x.read(sort, i), 0);
            }
            due("behind the last", x.read(sort, 60), NO);
            x.item(sort, 59, 1);
            due("59 of sort " + sort, x.tape(sort, sort, 59), 1);
            due("behind the last", x.read(sort, 59), NO);
            due("60 of sort " + sort, x.tape(sort, sort, 60), 1);
            due("all 0", x.read(sort, 59), 0);
            due("none of sort " + sort, x.tape(sort, sort, 0), 1);
            due("behind the last", x.read(sort, 0), NO);
        }
        says("Promise 35", "... the refused ones");
        due("tape 5", x.tape(5, 2, 1), 1);
        for (int tape : new int[] {-1, 6, MIN, MAX}) {
            due("tape(" + tape + ", 0, 0)", x.tape(tape, 0, 0), NONE);
            due("tape(" + tape + ", 5, 61)", x.tape(tape, 5, 61), NONE);
            due("tape(" + tape + ", -1, 0)", x.tape(tape, -1, 0), NONE);
        }
        for (int sort : new int[] {-2, 5, MIN, MAX}) {
            due("tape(5, " + sort + ", 0)", x.tape(5, sort, 0), BAD);
            due("tape(5, " + sort + ", -1)", x.tape(5, sort, -1), BAD);
        }
        for (int n : new int[] {61, MAX}) {
            due("tape(5, 0, " + n + ")", x.tape(5, 0, n), BAD);
            due("tape(5, 4, " + n + ")", x.tape(5, 4, n), BAD);
        }
        for (int n : new int[] {-1, MIN}) {
            due("tape(5, 0, " + n + ")", x.tape(5, 0, n), SIZE);
            due("tape(5, 4, " + n + ")", x.tape(5, 4, n), SIZE);
        }
        due("as it was", x.read(5, 0), 0);
        says("Promise 35", "(sort -1: n does not matter)");
        for (int n : new int[] {0, 60, 61, -1, MIN, MAX}) {
            x.tape(0, 2, 3);
            due("tape(0, -1, " + n + ")", x.tape(0, -1, n), 1);
            due("nothing there", x.item(0, 0, 1), NOTHING);
            due("nothing there", x.read(0, 0), NO);
        }
        says("Promise 36", "NONE; NOTHING; PLACE");
        x.tape(0, 2, 60);
        x.tape(1, 2, 0);
        due("the first", x.item(0, 0, 1), 1);
        due("the last", x.item(0, 59, 1), 1);
        for (int i : new int[] {-1, 60, MIN, MAX}) {
            due("item(0, " + i + ", 1)", x.item(0, i, 1), PLACE);
            due("item(1, " + i + ", 1)", x.item(1, i, 1), PLACE);
            due("item(2, " + i + ", 1)", x.item(2, i, 1), NOTHING);
            due("item(6, " + i + ", 1)", x.item(6, i, 1), NONE);
            due("read(0, " + i + ")", x.read(0, i), NO);
        }
        due("item(1, 0, 1)", x.item(1, 0, 1), PLACE);
        for (int tape : new int[] {-1, 6, MIN, MAX}) {
            due("item(" + tape + ", 0, 1)", x.item(tape, 0, 1), NONE);
            due("read(" + tape + ", 0)", x.read(tape, 0), NO);
        }
        says("Promise 36", "its lowest bits, as many as an item has; booleans: whether v is not 0");
        lowestBits(0, 127, 127, 128, -128, 255, -1, 256, 0, -128, -128, -129, 127, Long.MAX_VALUE, -1, Long.MIN_VALUE, 0);
        lowestBits(1, 32767, 32767, 32768, -32768, 65535, -1, 65536, 0, -32768, -32768, -32769, 32767, Long.MAX_VALUE, -1,
            Long.MIN_VALUE, 0);
        lowestBits(2, MAX, MAX, 1L << 31, MIN, 0xFFFFFFFFL, -1, 1L << 32, 0, MIN, MIN, MIN - 1L, MAX, Long.MAX_VALUE, -1,
            Long.MIN_VALUE, 0);
        lowestBits(3, Long.MAX_VALUE, Long.MAX_VALUE, Long.MIN_VALUE, Long.MIN_VALUE, -1, -1, 1L << 32, 1L << 32);
        lowestBits(4, 0, 0, 1, 1, 2, 1, -1, 1, 256, 1, 65536, 1, 1L << 32, 1, Long.MIN_VALUE, 1, Long.MAX_VALUE, 1);
        says("Promise 37", "NO: no such TAPE, nothing there, no such place; NO as an item is one as well");
        x.tape(0, 3, 1);
        x.item(0, 0, NO);
        due("the item is NO", x.read(0, 0), NO);
        x.item(0, 0, NO + 1);
        due("the item", x.read(0, 0), NO + 1);
    }

    /** What becomes of items of a sort: two by two, what is given and what is there then. */
    private static void lowestBits(int sort, long... given) {
        x.tape(0, sort, 3);
        for (int i = 0; i + 1 < given.length; i += 2) {
            due("item(0, 1, " + given[i] + ")", x.item(0, 1, given[i]), 1);
            due(given[i] + " in sort " + sort, x.read(0, 1), given[i + 1]);
            due("beside it", x.read(0, 0), 0);
            due("beside it", x.read(0, 2), 0);
        }
    }

    private static void shifts() {
        says("Promise 38", "NONE: tapes; NOTHING; CAST: of unlike sorts; PLACE: the first that is named");
        x.tape(0, 2, 4);
        x.tape(1, 2, 4);
        x.tape(2, 3, 4);
        for (int tape : new int[] {-1, 6, MIN, MAX}) {
            due("shift(" + tape + ", 0, 0, 0, 0)", x.shift(tape, 0, 0, 0, 0), NONE);
            due("shift(0, 0, " + tape + ", 0, 0)", x.shift(0, 0, tape, 0, 0), NONE);
            due("shift(5, -1, " + tape + ", 0, 0)", x.shift(5, -1, tape, 0, 0), NONE);
            due("shift(" + tape + ", 0, 5, -1, 0)", x.shift(tape, 0, 5, -1, 0), NONE);
        }
        due("from nothing", x.shift(5, 0, 0, 0, 0), NOTHING);
        due("to nothing", x.shift(0, 0, 5, 0, 0), NOTHING);
        due("from nothing, no place", x.shift(5, -1, 0, 9, -1), NOTHING);
        due("to nothing, no place", x.shift(0, -1, 5, 9, -1), NOTHING);
        due("unlike", x.shift(0, 0, 2, 0, 0), CAST);
        due("unlike", x.shift(2, 0, 0, 0, 0), CAST);
        due("unlike, no place", x.shift(2, -1, 0, 9, -1), CAST);
        for (int one = 0; one <= 4; one++) {
            for (int two = 0; two <= 4; two++) {
                x.tape(3, one, 1);
                x.tape(4, two, 1);
                x.item(3, 0, 1);
                due("sorts " + one + " and " + two, x.shift(3, 0, 4, 0, 1), one == two ? 1 : CAST);
                due("item", x.read(4, 0), one == two ? 1 : 0);
            }
        }
        says("Promise 38", "PLACE: n, i or j is below 0, or beyond either's end");
        x.tape(0, 2, 4);
        x.tape(1, 2, 6);
        x.item(0, 3, 7);
        due("all of the first", x.shift(0, 0, 1, 0, 4), 4);
        due("all of the first, to the end", x.shift(0, 0, 1, 2, 4), 4);
        due("the last came last", x.read(1, 5), 7);
        due("none, at the ends", x.shift(0, 4, 1, 6, 0), 0);
        due("none, at the starts", x.shift(0, 0, 1, 0, 0), 0);
        int[][] refused = {{-1, 0, 1}, {0, -1, 1}, {0, 0, -1}, {0, 0, 5}, {1, 0, 4}, {0, 3, 4}, {5, 0, 0}, {0, 7, 0}, {4, 0, 1},
            {0, 6, 1}, {MIN, 0, 1}, {0, MIN, 1}, {0, 0, MIN}, {MAX, 0, 1}, {0, MAX, 1}, {0, 0, MAX}, {1, 0, MAX}, {0, 1, MAX},
            {MAX, 0, MAX}, {0, MAX, MAX}, {MIN, 0, MIN}, {MAX, MAX, MAX}, {MIN, MIN, MIN}, {-1, 0, 0}, {0, -1, 0}, {2, 2, -2}};
        for (int[] row : refused) {
            due("shift(0, " + row[0] + ", 1, " + row[1] + ", " + row[2] + ")", x.shift(0, row[0], 1, row[1], row[2]), PLACE);
        }
        for (int i = 0; i < 6; i++) {
            due("as it was", x.read(1, i), i == 5 ? 7 : 0);
        }
        due("back, beyond its end", x.shift(1, 0, 0, 0, 5), PLACE);
        due("back, beyond its end", x.shift(1, 3, 0, 1, 4), PLACE);
        due("back", x.shift(1, 5, 0, 0, 1), 1);
        due("the item", x.read(0, 0), 7);
        says("Promise 38", "of empty rows");
        x.tape(0, 2, 0);
        x.tape(1, 2, 0);
        due("none", x.shift(0, 0, 1, 0, 0), 0);
        due("none of itself", x.shift(0, 0, 0, 0, 0), 0);
        due("one", x.shift(0, 0, 1, 0, 1), PLACE);
        says("Promise 38", "(or the same) ... as they all were before");
        int[][] upAndDown = {{0, 1, 59}, {1, 0, 59}, {0, 30, 30}, {10, 12, 40}, {12, 10, 40}, {5, 5, 50}, {0, 0, 60}};
        for (int[] row : upAndDown) {
            x = new TubeChain();
            x.tape(0, 1, 60);
            for (int i = 0; i < 60; i++) {
                x.item(0, i, 100 + i);
            }
            due("shift", x.shift(0, row[0], 0, row[1], row[2]), row[2]);
            for (int i = 0; i < 60; i++) {
                boolean came = i >= row[1] && i < row[1] + row[2];
                due("item " + i, x.read(0, i), came ? 100 + i - row[1] + row[0] : 100 + i);
            }
        }
    }
}
