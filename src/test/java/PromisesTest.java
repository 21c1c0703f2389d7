/** For each promise of ../shared/DOC.md ordinary calls, the edges that it names, and wrong calls; reckoned by hand. */
public final class PromisesTest {
    private static final long NO = Long.MIN_VALUE;
    private static int wrong = 0;
    private static int promise = 0;
    private static TubeChain x = new TubeChain();

    public static void main(String[] args) {
        constants();
        aNewObject();
        man();
        of();
        held();
        row();
        place();
        feed();
        scaffoldFaults();
        scaffoldHolds();
        scaffoldPaces();
        told();
        up();
        upAtTheEdges();
        pause();
        on();
        safe();
        best();
        slowest();
        order();
        without();
        pulley();
        from();
        rested();
        change();
        see();
        who();
        odds();
        mean();
        book();
        looked();
        judge();
        image();
        undo();
        act();
        trace();
        taken();
        count();
        tape();
        item();
        read();
        shift();
        askedChangesNothing();
        System.out.println(wrong == 0 ? "promises: all answers are as due" : wrong + " answers are not as due");
        if (wrong != 0) {
            System.exit(1);
        }
    }

    private static void begin(int number) {
        promise = number;
        x = new TubeChain();
    }

    private static void due(String call, long got, long want) {
        if (got != want) {
            wrong++;
            System.out.println("promise " + promise + ": " + call + " answered " + got + ", due is " + want);
        }
    }

    private static int scaffold(String text) {
        for (char sign : text.toCharArray()) {
            x.feed(sign);
        }
        return x.scaffold();
    }

    private static void fault(String text, int place) {
        due("«" + text + "»", scaffold(text), -10 - place);
    }

    private static void constants() {
        due("NONE", TubeChain.NONE, -1);
        due("BAD", TubeChain.BAD, -2);
        due("STATE", TubeChain.STATE, -3);
        due("FULL", TubeChain.FULL, -4);
        due("NO", TubeChain.NO, NO);
    }

    private static void aNewObject() {
        begin(1);
        for (int what = 0; what <= 5; what++) {
            due("count", x.count(what), 0);
        }
        due("TENTH", x.told(0), 0);
        due("UP", x.told(1), 0);
        due("FALLEN", x.told(2), 0);
        due("RISE", x.told(3), 5);
        due("REST", x.told(4), 3);
        due("PULL", x.told(5), 40);
        due("the first", x.told(10), -1);
        due("no image", x.undo(), -3);
        due("no trace", x.trace(0), -1);
        for (int tape = 0; tape <= 5; tape++) {
            due("item", x.item(tape, 0, 1), -11);
        }
    }

    private static void man() {
        begin(2);
        due("man(-1, 0)", x.man(-1, 0), -1);
        due("man(7, 99)", x.man(7, 99), -1);
        due("man(0, -1)", x.man(0, -1), -2);
        due("man(0, 10)", x.man(0, 10), -2);
        for (int i = 0; i < 6; i++) {
            due("man", x.man(i, i + 4), i);
            due("on top", x.told(10 + i), i);
        }
        due("a seventh", x.man(6, 9), -4);
        due("a seventh of no KIND", x.man(7, 0), -1);
        due("a seventh of no v", x.man(0, 10), -2);
        due("still six", x.count(0), 6);
        due("KIND", x.of(5, 0), 5);
        due("v", x.of(5, 1), 9);
    }

    private static void of() {
        begin(3);
        for (int kind = 0; kind < 6; kind++) {
            x.man(kind, 5);
            x.held(kind, 17);
        }
        int[] holds = {8, 6, 10, 10, 3, 10};
        for (int kind = 0; kind < 6; kind++) {
            due("KIND", x.of(kind, 0), kind);
            due("v", x.of(kind, 1), 5);
            due("HELD", x.of(kind, 2), 17);
            due("FREE", x.of(kind, 3), 0);
            due("place", x.of(kind, 4), kind);
            due("PACE", x.of(kind, 5), 8);
            due("HOLDS of KIND " + kind, x.of(kind, 6), holds[kind]);
        }
        due("of(-1, 0)", x.of(-1, 0), -1);
        due("of(6, 0)", x.of(6, 0), -1);
        due("of(0, -1)", x.of(0, -1), -1);
        due("of(0, 7)", x.of(0, 7), -1);
        begin(3);
        x.man(6, 0);
        x.row(0, 1, 7);
        x.held(0, 17);
        due("HOLDS of a TOLD one", x.of(0, 6), 8 + 2 + 7);
        x.held(0, 18);
        due("HOLDS of a TOLD one", x.of(0, 6), 8 + 2);
        x.man(1, 9);
        x.man(4, 9);
        x.man(4, 2);
        scaffold("quick 6 m<9");
        due("STRONG holds 1 at least", x.of(1, 6), 1);
        due("CALLING holds 1 at least", x.of(2, 6), 1);
        due("CALLING holds 1 at least", x.of(3, 6), 1);
        due("PACE", x.of(1, 5), 2);
    }

    private static void held() {
        begin(4);
        due("nobody", x.held(0, 1), -1);
        x.man(0, 0);
        due("held", x.held(0, 5), 0);
        due("held", x.held(0, 9999), 5);
        due("too many", x.held(0, 10000), -2);
        due("below 0", x.held(0, -1), -2);
        due("no MAN, no n", x.held(1, -1), -1);
        due("held", x.held(0, 0), 9999);
        due("HELD", x.of(0, 2), 0);
    }

    private static void row() {
        begin(5);
        x.man(6, 0);
        x.man(3, 0);
        due("row", x.row(0, 3, 9), 0);
        due("row", x.row(0, 3, 1), 9);
        due("row", x.row(0, 0, 4), 0);
        due("row", x.row(0, 2, 0), 0);
        due("no MAN", x.row(2, 0, 1), -1);
        due("no part", x.row(0, 4, 1), -1);
        due("no part", x.row(0, -1, 10), -1);
        due("no n", x.row(0, 0, 10), -2);
        due("no n", x.row(0, 0, -1), -2);
        due("no n, no TOLD one", x.row(1, 0, 10), -2);
        due("no TOLD one", x.row(1, 0, 1), -3);
        due("no part, no TOLD one", x.row(1, 4, 1), -1);
        due("HELD 0", x.of(0, 6), 12);
        x.held(0, 3);
        due("HELD 3", x.of(0, 6), 9);
    }

    private static void chainIs(int... line) {
        for (int k = 0; k < line.length; k++) {
            due("told(" + (10 + k) + ")", x.told(10 + k), line[k]);
            due("place of " + line[k], x.of(line[k], 4), k);
        }
        due("beyond THE CHAIN", x.told(10 + line.length), -1);
    }

    private static void place() {
        begin(6);
        due("nobody", x.place(0, 0), -1);
        for (int i = 0; i < 4; i++) {
            x.man(0, 0);
        }
        due("place(0, 2)", x.place(0, 2), 0);
        chainIs(1, 2, 0, 3);
        due("place(3, 0)", x.place(3, 0), 3);
        chainIs(3, 1, 2, 0);
        due("place(1, 1)", x.place(1, 1), 1);
        chainIs(3, 1, 2, 0);
        due("place(3, 3)", x.place(3, 3), 0);
        chainIs(1, 2, 0, 3);
        due("no MAN", x.place(4, 0), -1);
        due("no MAN", x.place(-1, 0), -1);
        due("no place", x.place(0, 4), -1);
        due("no place", x.place(0, -1), -1);
        chainIs(1, 2, 0, 3);
        x.man(0, 0);
        chainIs(1, 2, 0, 3, 4);
    }

    private static void feed() {
        begin(7);
        due("feed(0)", x.feed(0), 1);
        due("feed(127)", x.feed(127), 2);
        due("feed(128)", x.feed(128), -2);
        due("feed(-1)", x.feed(-1), -2);
        for (int i = 3; i <= 100; i++) {
            due("feed", x.feed('r'), i);
        }
        due("feed(114)", x.feed('r'), -4);
        due("feed(128) to a full one", x.feed(128), -2);
        due("bytes", x.count(4), 100);
        due("no word", x.scaffold(), -10);
        due("bytes", x.count(4), 0);
        due("feed(1)", x.feed(1), 1);
    }

    private static void scaffoldFaults() {
        begin(8);
        fault("", 0);
        fault("x", 0);
        fault("s", 1);
        fault("slaw 1 m=1", 2);
        fault("q", 1);
        fault("rope 1", 1);
        fault("rust 1", 1);
        fault("res", 3);
        fault("rest", 4);
        fault("rest.1", 4);
        fault("rest  1", 5);
        fault("rest x", 5);
        fault("rest 1 ", 6);
        fault("rest 1;", 7);
        fault("rest 1;;", 7);
        fault("rest 123", 7);
        fault("rise 1;slow", 11);
        fault("slow 12", 7);
        fault("slow 12;rest 1", 7);
        fault("slow 1 ", 7);
        fault("slow 1 x=1", 7);
        fault("slow 1 m", 8);
        fault("slow 1 m!1", 8);
        fault("slow 1 m=", 9);
        fault("slow 1 m=123", 11);
        fault("slow 1 m=1&", 11);
        fault("slow 1 m=1|&", 11);
        fault("slow 1 m=1)", 10);
        fault("slow 1 (m=1", 11);
        fault("slow 1 (m=1;", 11);
        fault("slow 1 ()", 8);
        fault("slow 1 m=1 ", 10);
        fault("slow 1 !", 8);
        fault("slow 1 !!!!!m=1", 11);
        fault("slow 1 (!(!(m=1))))", 11);
        fault("slow 1 !(m=1|!(h=9|!t<99))", 19);
        fault("slow 1 ((((m=1))))|!!!!!m=1", 23);
        fault("rise 1;rise 2;rise 3;rise 4;rise 5;rise 6;rise 7;rise 8;rise 9;rise 0;", 69);
        fault("quick 1 ((((((m=1))))))", 12);
        due("SCAFFOLDS", x.count(1), 0);
        due("RISE", x.told(3), 5);
        x.man(0, 0);
        fault("rise 9;rest 9;pull 9;slow 9 m=0;x", 32);
        due("behind a FAULT", scaffold("slow 1 m=0"), 0);
        due("nothing is left of it: RISE", x.told(3), 5);
        due("nothing is left of it: REST", x.told(4), 3);
        due("nothing is left of it: PULL", x.told(5), 40);
        due("nothing is left of it: PACE", x.of(0, 5), 9);
        fault("slow 1 ", 7);
        fault("slow 1", 6);
        fault("slow 1 m", 8);
        fault("slow", 4);
        // what a whole SCAFFOLD is hangs on no length: a full TEXT ends too early behind its last byte
        StringBuilder full = new StringBuilder("slow 12 m<9");
        while (full.length() < 99) {
            full.append(full.length() == 95 ? "|m<10" : "|m<9");
        }
        due("a full TEXT", scaffold(full.substring(0, 99)), 1);
        fault(full.substring(0, 99) + "|", 100);
        fault(full.substring(0, 99) + "(", 99);
    }

    private static void scaffoldHolds() {
        begin(8);
        due("a first one", scaffold("rise 9;rest 08;pull 0;rise 7"), 0);
        due("RISE", x.told(3), 7);
        due("REST", x.told(4), 8);
        due("PULL", x.told(5), 1);
        fault("rise 3;rest 4;pull 5!", 20);
        due("the one that held holds", x.told(3), 7);
        due("the one that held holds", x.told(4), 8);
        due("the one that held holds", x.told(5), 1);
        due("ten CLAUSES", scaffold("rise 1;rise 2;rise 3;rise 4;rise 5;rise 6;rise 7;rise 8;rise 9;rise 99"), 1);
        due("RISE", x.told(3), 99);
        due("REST of the newest", x.told(4), 3);
        due("within four", scaffold("slow 1 ((((m=1))))&!!!!m=1&!(!(m>0))"), 2);
        due("a fourth", scaffold("pull 1"), 3);
        due("a fifth", scaffold("pull 2"), 4);
        due("a sixth", scaffold("pull 3"), 5);
        due("a seventh", scaffold("pull 4"), -4);
        due("THE TEXT stays", x.count(4), 6);
        due("a seventh", x.scaffold(), -4);
        due("PULL", x.told(5), 3);
        due("SCAFFOLDS", x.count(1), 6);
    }

    private static void pace(String text, int first, int second) {
        TubeChain before = x;
        x = new TubeChain();
        x.man(0, 3);
        x.man(4, 7);
        x.place(0, 1);
        x.held(0, 27);
        x.held(1, 9999);
        due("«" + text + "»", scaffold(text), 0);
        due("PACE of 0 by «" + text + "»", x.of(0, 5), first);
        due("PACE of 1 by «" + text + "»", x.of(1, 5), second);
        x = before;
    }

    private static void scaffoldPaces() {
        begin(8);
        pace("slow 4 m=0", 12, 8);
        pace("slow 4 m<1", 12, 8);
        pace("slow 4 m>0", 8, 12);
        pace("slow 4 k=4", 8, 12);
        pace("slow 4 l=0", 8, 12);
        pace("slow 4 h=7", 12, 8);
        pace("slow 4 h=9", 8, 12);
        pace("slow 4 t=2", 12, 8);
        pace("slow 4 t=99", 8, 12);
        pace("slow 4 v>3", 8, 12);
        pace("slow 4 v=03", 12, 8);
        pace("slow 4 m<9;quick 1 m=0;slow 10 k=4;quick 2 m<9", 9, 20);
        pace("quick 99 m=0;slow 3 m<9", 1, 11);
        pace("quick 99 m=0;slow 95 m<9", 4, 103);
        pace("slow 1 m=0|m=1&m=2", 9, 8);
        pace("slow 1 (m=0|m=1)&m=1", 8, 9);
        pace("slow 1 m=1&m=2|m=0", 9, 8);
        pace("slow 1 !m=0&m=1", 8, 9);
        pace("slow 1 !(m=0&m=1)", 9, 9);
        pace("slow 1 !!m=0", 9, 8);
        pace("slow 1 m=5|m=6|m=1|m=7", 8, 9);
        pace("slow 1 m<9&m<8&m=0&m<7", 9, 8);
        pace("quick 1 ((((m=0))))", 7, 8);
        pace("slow 1 t>2", 8, 9);
        pace("slow 1 v<4", 9, 8);
        pace("slow 1 m<0|m=1", 8, 9);
        pace("slow 1 m<9&!m<0&m=1", 8, 9);
        pace("slow 1 !(m=1|!(h=9|t<99))", 9, 8);
        pace("slow 1 !(m=1|!(h=7|t>98))", 9, 8);
        pace("slow 99 m<9;slow 99 m<9;slow 99 m<9;slow 99 m<9;slow 99 m<9;slow 99 m<9;slow 99 m<9;slow 99 m<9",
            800, 800);
        begin(8);
        x.man(0, 1);
        scaffold("slow 5 h=4&t=6;slow 7 t>98&h=9;slow 9 v=2;slow 20 k=1");
        due("HELD 0", x.of(0, 5), 8);
        x.held(0, 64);
        due("HELD 64", x.of(0, 5), 13);
        x.held(0, 128);
        due("HELD 128", x.of(0, 5), 8);
        x.held(0, 999);
        due("HELD 999", x.of(0, 5), 15);
        x.held(0, 1000);
        due("HELD 1000", x.of(0, 5), 8);
        x.held(0, 1063);
        due("HELD 1063", x.of(0, 5), 8);
        x.held(0, 9999);
        due("HELD 9999", x.of(0, 5), 15);
        x.held(0, 30);
        scaffold("slow 5 t=3");
        due("t is HELD by 10", x.of(0, 5), 13);
        begin(8);
        scaffold("slow 9 v=2;slow 20 k=1");
        x.image();
        int[][] kinds = {{0, 1, 8}, {0, 2, 17}, {1, 1, 28}, {1, 2, 37}};
        for (int[] kind : kinds) {
            x.man(kind[0], kind[1]);
            due("another MAN of this number", x.of(0, 5), kind[2]);
            x.undo();
        }
    }

    private static void told() {
        begin(9);
        x.man(0, 0);
        x.man(0, 0);
        x.place(1, 0);
        x.up(20);
        x.up(1);
        x.up(1);
        due("TENTH", x.told(0), 22);
        due("UP", x.told(1), 2);
        due("FALLEN", x.told(2), 1);
        due("the first", x.told(10), 1);
        due("the second", x.told(11), 0);
        due("the third", x.told(12), -1);
        for (int what = 6; what < 10; what++) {
            due("told(" + what + ")", x.told(what), -1);
        }
        due("told(-1)", x.told(-1), -1);
        due("told(the greatest)", x.told(Integer.MAX_VALUE), -1);
        due("told(the least)", x.told(Integer.MIN_VALUE), -1);
    }

    private static void up() {
        begin(10);
        due("nobody there", x.up(7), 5);
        due("UP", x.told(1), 1);
        scaffold("rise 0");
        due("UP at once", x.up(7), 0);
        due("UP", x.told(1), 2);
        begin(10);
        x.man(0, 0);
        due("a first TUBE", x.up(10), 18);
        due("HELD", x.of(0, 2), 1);
        due("FREE", x.of(0, 3), 16);
        due("TENTH", x.told(0), 10);
        due("ahead of FREE", x.up(10), -10);
        due("HELD", x.of(0, 2), 1);
        due("FREE", x.of(0, 3), 16);
        due("FALLEN", x.told(2), 1);
        due("behind FREE", x.up(99), 18);
        due("FREE", x.of(0, 3), 36);
        due("TENTH", x.told(0), 119);
        begin(10);
        x.man(0, 0);
        x.man(2, 0);
        due("two MEN", x.up(11), 5 + 8 + 5 + 10 + 5);
        due("FREE", x.of(1, 3), 18 + 10 + 3);
        due("just at FREE of 0, ahead of FREE of 1", x.up(11), -11);
        due("HELD of 0", x.of(0, 2), 2);
        due("HELD of 1", x.of(1, 2), 1);
        due("BAD", x.up(0), -2);
        due("BAD", x.up(100), -2);
        due("TENTH", x.told(0), 22);
    }

    private static void upAtTheEdges() {
        begin(10);
        x.man(5, 0);
        due("SLIPPING holds", x.up(1), 20);
        due("ahead of FREE", x.up(99), -10);
        due("HELD stays", x.of(0, 2), 1);
        due("lets slip", x.up(99), -10);
        due("HELD is 1 more", x.of(0, 2), 2);
        due("FREE stays", x.of(0, 3), 18);
        due("holds again", x.up(1), 20);
        due("UP", x.told(1), 2);
        due("FALLEN", x.told(2), 2);
        begin(10);
        x.man(3, 0);
        x.held(0, 7);
        due("HOLDS by HELD as it is", x.up(99), 18);
        due("HOLDS by HELD as it is", x.up(99), 19);
        x.held(0, 9999);
        due("HELD 9999", x.up(99), 5 + 8 + 1249 + 5);
        due("9999 at most", x.of(0, 2), 9999);
        begin(10);
        for (int i = 0; i < 100; i++) {
            x.pause(9999);
        }
        due("TENTH", x.pause(98), 999998);
        due("TENTH would be above", x.up(2), -3);
        due("no BEAT, above", x.up(100), -2);
        due("TENTH is just not above", x.up(1), 5);
        due("TENTH", x.told(0), 999999);
        due("TENTH would be above", x.up(1), -3);
        due("UP", x.told(1), 1);
        due("asked beyond 999999", x.on(2, 99, 1), 104);
    }

    private static void pause() {
        begin(11);
        due("pause(0)", x.pause(0), 0);
        due("pause(9999)", x.pause(9999), 9999);
        due("pause(10000)", x.pause(10000), -2);
        due("pause(-1)", x.pause(-1), -2);
        for (int i = 0; i < 99; i++) {
            x.pause(9999);
        }
        due("TENTH", x.told(0), 999900);
        due("above", x.pause(100), -3);
        due("above, BAD", x.pause(10000), -2);
        due("not above", x.pause(99), 999999);
        due("above", x.pause(1), -3);
        due("pause(0)", x.pause(0), 999999);
    }

    private static void on() {
        begin(12);
        x.man(0, 0);
        x.pause(1000);
        due("how many", x.on(4, 10, 0), 2);
        due("when", x.on(4, 10, 1), 38);
        due("who", x.on(4, 10, 2), 0);
        due("how many that one", x.on(4, 10, 3), 2);
        due("no TUBES", x.on(0, 10, 0), 0);
        due("no TUBES", x.on(0, 10, 1), 0);
        due("no TUBES", x.on(0, 10, 2), -5);
        due("no TUBES", x.on(0, 10, 3), 0);
        due("none falls", x.on(30, 99, 2), -5);
        due("30 TUBES", x.on(30, 99, 1), 29 * 99 + 18);
        due("NONE", x.on(31, 10, 4), -1);
        due("NONE", x.on(1, 10, -1), -1);
        due("BAD", x.on(31, 10, 0), -2);
        due("BAD", x.on(-1, 10, 0), -2);
        due("BAD", x.on(1, 0, 0), -2);
        due("BAD", x.on(1, 100, 0), -2);
        x.up(1);
        due("none comes UP", x.on(1, 5, 0), 0);
        due("none comes UP", x.on(1, 5, 1), 0);
        begin(12);
        scaffold("rise 0");
        due("UP at once", x.on(3, 5, 0), 3);
        due("UP at once", x.on(3, 5, 1), 10);
        due("UP at once", x.on(3, 5, 2), -5);
        due("UP at once", x.safe(3), 1);
        begin(12);
        x.man(5, 1);
        x.man(5, 1);
        due("of several the least", x.on(8, 99, 2), 0);
        due("how many that one", x.on(8, 99, 3), 2);
        x.place(1, 0);
        due("of several the least", x.on(8, 99, 2), 0);
        due("only the first one", x.on(3, 99, 2), 1);
        begin(12);
        x.man(3, 0);
        x.held(0, 9999);
        due("HELD beyond 9999", x.on(14, 99, 1), 13 * 99 + 5 + 8 + 1250 + 5);
        due("HELD beyond 9999", x.on(14, 99, 0), 2);
        due("HELD beyond 9999", x.on(14, 99, 3), 12);
    }

    private static void safe() {
        begin(13);
        due("nobody", x.safe(20), 1);
        x.man(0, 0);
        due("one TUBE", x.safe(1), 1);
        due("two", x.safe(2), 11);
        due("twenty", x.safe(20), 11);
        due("BAD", x.safe(0), -2);
        due("BAD", x.safe(21), -2);
        x.up(1);
        due("none: FREE later", x.safe(1), -5);
        x.pause(9);
        due("not FREE yet", x.safe(1), -5);
        x.pause(1);
        due("FREE", x.safe(1), 1);
        begin(13);
        x.man(0, 0);
        scaffold("slow 88 m=0");
        due("the longest that is safe", x.safe(2), 99);
        scaffold("slow 89 m=0");
        due("none", x.safe(2), -5);
    }

    private static void best() {
        begin(14);
        x.man(0, 0);
        due("BEAT", x.best(4, 0), 11);
        due("how many", x.best(4, 1), 4);
        due("NONE", x.best(0, 2), -1);
        due("NONE", x.best(0, -1), -1);
        due("BAD", x.best(0, 0), -2);
        due("BAD", x.best(21, 1), -2);
        begin(14);
        x.man(5, 0);
        due("of several the least", x.best(2, 0), 1);
        due("how many", x.best(2, 1), 1);
        due("most, not the soonest", x.best(3, 0), 13);
        due("how many", x.best(3, 1), 2);
        begin(14);
        x.man(5, 1);
        due("as many by 7, but the soonest", x.best(3, 0), 13);
        due("how many", x.best(3, 1), 2);
        begin(14);
        x.man(0, 0);
        scaffold("slow 88 m=0");
        due("the longest BEAT", x.best(2, 0), 99);
        due("twenty", x.best(20, 1), 20);
        begin(14);
        x.man(0, 0);
        x.up(1);
        due("none comes UP", x.best(1, 0), 1);
        due("none comes UP", x.best(1, 1), 0);
    }

    private static void slowest() {
        begin(15);
        due("nobody", x.slowest(), -5);
        x.man(0, 0);
        x.man(2, 0);
        x.man(5, 0);
        due("the first in THE CHAIN", x.slowest(), 1);
        x.place(2, 0);
        due("the first in THE CHAIN", x.slowest(), 2);
        x.man(3, 0);
        x.held(3, 24);
        due("HOLDS now", x.slowest(), 3);
    }

    private static void order() {
        begin(16);
        due("nobody", x.order(3, -1), 1);
        due("nobody", x.order(3, 0), -5);
        x.man(2, 0);
        x.man(0, 0);
        due("alike: the first row", x.order(2, 0), 0);
        x.place(1, 0);
        due("alike: the first row", x.order(2, 0), 0);
        due("SAFE", x.order(2, -1), 13);
        scaffold("slow 5 l=0&k=2");
        x.place(0, 0);
        due("SAFE of the best", x.order(2, -1), 13);
        due("the first", x.order(2, 0), 1);
        due("the second", x.order(2, 1), 0);
        due("there are fewer", x.order(2, 2), -5);
        due("there are fewer", x.order(2, 3), -5);
        due("NONE", x.order(0, 4), -1);
        due("NONE", x.order(0, -2), -1);
        due("BAD", x.order(0, 0), -2);
        due("BAD", x.order(9, 0), -2);
        x.man(0, 0);
        x.man(0, 0);
        due("the fourth", x.order(8, 3), 3);
        x.man(0, 0);
        due("five", x.order(8, 0), -9);
        due("five, NONE", x.order(8, 4), -1);
        due("five, BAD", x.order(9, 0), -2);
        begin(16);
        x.man(5, 0);
        x.man(5, 0);
        x.place(1, 0);
        due("none", x.order(2, -1), -5);
        due("none: the first row", x.order(2, 0), 0);
        due("none: the first row", x.order(2, 1), 1);
        begin(16);
        x.man(0, 0);
        due("one TUBE", x.order(1, -1), 1);
        scaffold("slow 88 m=0");
        due("the longest BEAT", x.order(2, -1), 99);
        scaffold("slow 89 m=0");
        due("none", x.order(2, -1), -5);
        due("none: the first row", x.order(2, 0), 0);
        begin(16);
        for (int i = 0; i < 4; i++) {
            x.man(0, 0);
        }
        scaffold("slow 9 !(l=0&m=2|l=1&m=3|l=2&m=1|l=3&m=0)");
        int[] row = {2, 3, 1, 0};
        for (int k = 0; k < 4; k++) {
            due("of four", x.order(3, k), row[k]);
        }
        due("SAFE", x.order(3, -1), 11);
    }

    private static void without() {
        begin(17);
        due("nobody", x.without(0, 1, 1), -1);
        x.man(0, 0);
        x.man(5, 0);
        due("without the one who lets slip", x.without(1, 4, 99), 4);
        due("without the other", x.without(0, 4, 99), 2);
        due("NONE", x.without(2, 31, 1), -1);
        due("NONE", x.without(-1, 1, 1), -1);
        due("BAD", x.without(0, 31, 1), -2);
        due("BAD", x.without(0, 0, 1), -2);
        due("BAD", x.without(0, 1, 0), -2);
        due("BAD", x.without(0, 1, 100), -2);
        begin(17);
        x.man(0, 0);
        x.man(0, 0);
        scaffold("slow 50 l=1");
        due("as they are", x.on(2, 20, 0), 1);
        due("the other has his place", x.without(0, 2, 20), 2);
        begin(17);
        x.man(0, 0);
        due("nobody is left", x.without(0, 30, 1), 30);
    }

    private static void pulley() {
        begin(18);
        x.man(0, 0);
        due("by so much slower", x.pulley(3, 20), 120 + 5 - 58);
        due("one falls", x.pulley(2, 10), -100001);
        due("one alone", x.pulley(1, 10), 40 + 5 - 18);
        due("BAD", x.pulley(0, 1), -100002);
        due("BAD", x.pulley(31, 1), -100002);
        due("BAD", x.pulley(1, 0), -100002);
        due("BAD", x.pulley(1, 100), -100002);
        scaffold("pull 0");
        due("below 0", x.pulley(3, 20), 3 + 5 - 58);
        x.man(0, 0);
        due("RISE for each MAN", x.pulley(1, 20), 1 + 10 - 31);
    }

    private static void from() {
        begin(19);
        x.man(0, 0);
        scaffold("pull 12");
        due("from three on", x.from(11), 3);
        due("one falls ahead of that", x.from(10), -5);
        due("never", x.from(20), -5);
        due("BAD", x.from(0), -2);
        due("BAD", x.from(100), -2);
        scaffold("pull 20");
        due("at once", x.from(20), 1);
        scaffold("pull 11");
        due("a difference of none is not enough", x.from(11), -5);
        begin(19);
        scaffold("rise 29;pull 2");
        due("just at thirty", x.from(1), 29);
        scaffold("rise 30;pull 2");
        due("at thirty", x.from(1), 30);
        scaffold("rise 31;pull 2");
        due("behind thirty", x.from(1), -5);
    }

    private static void rested() {
        begin(20);
        x.man(0, 0);
        due("behind each", x.rested(3, 6, 5), 1);
        due("too short", x.rested(2, 6, 4), -5);
        due("one alone", x.rested(1, 6, 4), 20);
        due("none needed", x.rested(20, 11, 1), 20);
        due("BAD", x.rested(0, 1, 1), -2);
        due("BAD", x.rested(21, 1, 1), -2);
        due("BAD", x.rested(1, 0, 1), -2);
        due("BAD", x.rested(1, 100, 1), -2);
        due("BAD", x.rested(1, 1, 0), -2);
        due("BAD", x.rested(1, 1, 61), -2);
        due("sixty", x.rested(20, 1, 60), 1);
        begin(20);
        x.man(3, 0);
        x.held(0, 6);
        due("behind the third", x.rested(4, 11, 1), 3);
        due("behind each", x.rested(5, 11, 1), 1);
    }

    private static void change() {
        begin(21);
        due("nobody", x.change(1, 1), -5);
        x.man(0, 0);
        due("one", x.change(1, 1), -5);
        x.man(2, 0);
        scaffold("slow 50 l=1&k=2");
        due("the two change", x.change(2, 20), 1);
        due("not more", x.change(1, 20), -5);
        x.place(1, 0);
        due("as well as can be", x.change(2, 20), -5);
        due("BAD", x.change(0, 20), -2);
        due("BAD", x.change(31, 20), -2);
        due("BAD", x.change(1, 0), -2);
        due("BAD", x.change(1, 100), -2);
        begin(21);
        for (int i = 0; i < 4; i++) {
            x.man(0, 0);
        }
        scaffold("slow 50 l=2&m=2");
        due("of several the first", x.change(2, 20), 2);
        scaffold("slow 50 l=1&m=1|l=0&m=2|l=1&m=0");
        due("later ones", x.change(2, 20), 12);
        scaffold("slow 50 l=3&!m=2");
        due("the last two", x.change(2, 20), 23);
    }

    private static void see() {
        begin(22);
        for (int i = 1; i <= 6; i++) {
            due("one may be there again", x.see(19), i);
        }
        due("FULL", x.see(0), -4);
        due("BAD", x.see(20), -2);
        due("BAD", x.see(-2), -2);
        due("none", x.see(-1), 0);
        due("none", x.see(-1), 0);
        due("again", x.see(0), 1);
        due("count", x.count(2), 1);
    }

    private static void who() {
        begin(23);
        due("nobody", x.who(17), 0);
        x.man(3, 0);
        x.man(0, 0);
        due("none falls by the second", x.who(17), 2);
        due("none falls by either", x.who(99), 3);
        x.see(17);
        due("not just those", x.who(17), 0);
        x.see(19);
        due("the tired first", x.who(17), 1);
        x.see(17);
        due("one is there again", x.who(17), 1);
        x.see(0);
        due("one too many", x.who(17), 0);
        due("BAD", x.who(0), -2);
        due("BAD", x.who(100), -2);
    }

    private static void odds() {
        begin(24);
        due("nobody", x.odds(1, 1, 0), NO);
        x.man(3, 0);
        x.man(0, 0);
        due("above", x.odds(20, 17, 0), 1);
        due("below", x.odds(20, 17, 1), 2);
        due("one TUBE", x.odds(1, 1, 0), 1);
        due("sure", x.odds(17, 17, 0), 1);
        due("sure", x.odds(17, 17, 1), 1);
        due("never", x.odds(2, 1, 0), 0);
        due("never", x.odds(2, 1, 1), 1);
        x.man(0, 0);
        x.man(0, 0);
        due("three of four", x.odds(20, 17, 0), 3);
        due("three of four", x.odds(20, 17, 1), 4);
        x.man(3, 0);
        x.man(0, 0);
        due("four of six", x.odds(20, 17, 0), 2);
        due("four of six", x.odds(20, 17, 1), 3);
        due("n", x.odds(0, 1, 0), NO);
        due("n", x.odds(21, 1, 0), NO);
        due("b", x.odds(1, 0, 0), NO);
        due("b", x.odds(1, 100, 0), NO);
        due("part", x.odds(1, 1, 2), NO);
        due("part", x.odds(1, 1, -1), NO);
    }

    private static void mean() {
        begin(25);
        due("nobody", x.mean(20, 0), 20);
        due("nobody", x.mean(20, 1), 1);
        x.man(0, 0);
        due("above", x.mean(2, 0), 3);
        due("below", x.mean(2, 1), 2);
        due("n", x.mean(0, 0), NO);
        due("n", x.mean(21, 0), NO);
        due("part", x.mean(1, 2), NO);
        due("part", x.mean(1, -1), NO);
        x.up(1);
        due("none", x.mean(1, 0), 0);
        due("none", x.mean(1, 1), 1);
    }

    private static void book() {
        begin(26);
        for (int i = 1; i <= 8; i++) {
            due("a row", x.book(19, i > 4), i);
        }
        due("FULL", x.book(0, true), -4);
        due("BAD", x.book(20, true), -2);
        due("BAD", x.book(-2, false), -2);
        due("empty", x.book(-1, true), 0);
        due("empty", x.book(-1, false), 0);
        due("again", x.book(0, false), 1);
        due("count", x.count(3), 1);
    }

    private static void looked() {
        begin(27);
        x.man(0, 0);
        due("none", x.looked(10), -5);
        x.book(0, true);
        x.book(19, false);
        x.book(18, true);
        due("all as told", x.looked(10), -5);
        due("the second is otherwise", x.looked(99), 1);
        x.book(4, false);
        x.book(6, false);
        due("the first that is otherwise", x.looked(10), 3);
        x.book(-1, true);
        x.book(1, true);
        due("the first", x.looked(10), 0);
        x.book(-1, true);
        x.book(1, false);
        x.book(2, true);
        x.book(3, false);
        x.book(4, true);
        x.book(5, false);
        due("all as told", x.looked(10), -5);
        due("BAD", x.looked(0), -2);
        due("BAD", x.looked(100), -2);
        x.book(-1, false);
        due("none", x.looked(10), -5);
    }

    private static void judge() {
        begin(28);
        due("nobody, nothing", x.judge(0, 0), -5);
        due("nobody, no place", x.judge(0, -1), -5);
        x.man(0, 0);
        x.man(0, 0);
        x.up(10);
        due("nothing", x.judge(0, 0), 100);
        x.tape(0, 2, 3);
        x.item(0, 0, 7);
        x.item(0, 1, 16);
        x.item(0, 2, 29);
        due("none is otherwise", x.judge(0, 1), -5);
        due("the first is otherwise", x.judge(0, 0), 0);
        due("the first is otherwise", x.judge(0, 2), 0);
        due("ends ahead", x.judge(0, 3), 100);
        due("far behind the end", x.judge(0, Integer.MAX_VALUE), 100);
        due("the place is below 0", x.judge(0, -1), 100);
        x.item(0, 2, 16);
        due("ends behind the first", x.judge(0, 2), 101);
        due("the second is otherwise", x.judge(0, 1), 1);
        x.tape(1, 3, 3);
        due("longs", x.judge(1, 0), -12);
        due("longs, no place", x.judge(1, -1), -12);
        due("NONE", x.judge(-1, 0), -1);
        due("NONE", x.judge(6, 0), -1);
    }

    private static void image() {
        begin(29);
        due("nobody", x.image(), 0);
        x.man(0, 0);
        due("one", x.image(), 1);
        x.man(0, 0);
        due("the latest", x.undo(), 1);
        due("MEN", x.count(0), 1);
    }

    private static void undo() {
        begin(30);
        due("none", x.undo(), -3);
        x.man(6, 1);
        x.man(2, 2);
        x.place(1, 0);
        x.row(0, 2, 5);
        x.held(0, 2);
        x.up(20);
        x.see(3);
        x.see(4);
        x.book(5, true);
        scaffold("rise 7;slow 2 m=0");
        x.image();
        scaffold("rise 9");
        x.man(1, 3);
        x.place(0, 0);
        x.row(0, 2, 6);
        x.held(0, 50);
        x.up(9);
        x.pause(70);
        x.up(9);
        x.see(-1);
        x.book(-1, true);
        x.feed('r');
        x.tape(0, 0, 3);
        x.act(0, 0, 1);
        for (int again = 0; again < 2; again++) {
            due("undo", x.undo(), 2);
            due("KIND", x.of(0, 0), 6);
            due("HELD", x.of(0, 2), 3);
            due("FREE", x.of(1, 3), 18);
            chainIs(1, 0);
            due("TENTH", x.told(0), 20);
            due("UP", x.told(1), 1);
            due("FALLEN", x.told(2), 0);
            due("RISE", x.told(3), 7);
            due("PACE", x.of(0, 5), 10);
            due("SEEN", x.count(2), 2);
            due("BOOK", x.count(3), 1);
            x.held(0, 2);
            due("ROW", x.of(0, 6), 15);
            due("a new one", x.man(1, 3), 2);
            due("who has HELD none", x.of(2, 2), 0);
        }
        x.undo();
        x.man(5, 0);
        x.held(2, 9);
        x.up(99);
        x.undo();
        x.man(6, 0);
        due("a new one's HELD", x.of(2, 2), 0);
        due("a new one's FREE", x.of(2, 3), 0);
        x.row(2, 0, 4);
        x.undo();
        x.man(6, 0);
        due("a new one's ROW", x.row(2, 0, 4), 0);
        due("SCAFFOLDS stay", x.count(1), 2);
        due("THE TEXT stays", x.count(4), 1);
        due("TAPES stay", x.read(0, 2), 0);
        due("THE TRACE stays", x.trace(0), 71);
        fault("x", 1);
        due("a third SCAFFOLD", scaffold("rise 4"), 2);
        due("RISE", x.told(3), 4);
        begin(30);
        x.man(3, 0);
        x.see(17);
        x.see(19);
        x.book(1, false);
        x.image();
        x.see(-1);
        x.see(3);
        x.see(4);
        x.book(-1, true);
        x.book(0, true);
        x.undo();
        due("SEEN", x.who(17), 1);
        due("the BOOK", x.looked(99), 0);
        begin(30);
        x.man(0, 0);
        x.image();
        scaffold("slow 9 m=0;rise 9;rest 9;pull 9");
        x.undo();
        due("none holds: RISE", x.told(3), 5);
        due("none holds: REST", x.told(4), 3);
        due("none holds: PULL", x.told(5), 40);
        due("none holds: PACE", x.of(0, 5), 8);
    }

    private static void act() {
        begin(31);
        int[] vs = {3, 2, 1, 4, 3, 0};
        for (int kind = 0; kind < 6; kind++) {
            x.man(kind, vs[kind]);
        }
        int[][] want = {{5, 2, 4}, {6, 2, 4}, {17, 16, 32}, {8, 4, 8}, {-9, -11, -22}, {20, 20, 10}};
        for (int m = 0; m < 6; m++) {
            for (int act = 0; act < 3; act++) {
                due("act(" + m + ", " + act + ", 5)", x.act(m, act, 5), want[m][act]);
            }
        }
        due("wraps", x.act(1, 0, Integer.MAX_VALUE), Integer.MIN_VALUE);
        due("no such MAN", x.act(6, 0, 5), 0);
        due("no TRACE then", x.count(5), 0);
        x.act(0, 0, 5);
        due("no such act", x.act(0, 3, 5), 0);
        due("no TRACE then", x.trace(0), -1);
        x.act(0, 0, 5);
        due("no such act", x.act(0, -1, 5), 0);
        due("no TRACE then", x.trace(0), -1);
        begin(31);
        x.man(6, 5);
        due("TOLD throws", x.act(0, 0, 2), 7);
        due("TOLD takes", x.act(0, 1, 2), 4);
        due("TOLD tells", x.act(0, 2, 2), 9);
    }

    private static void traceIs(int... bodies) {
        for (int i = 0; i < bodies.length; i++) {
            due("trace(" + i + ")", x.trace(i), bodies[i]);
        }
        due("behind the last", x.trace(bodies.length), -1);
        due("how many ran", x.count(5), bodies.length);
        due("ahead of the first", x.trace(-1), -1);
    }

    private static void trace() {
        begin(32);
        for (int kind = 0; kind < 6; kind++) {
            x.man(kind, 3);
        }
        x.act(0, 2, 1);
        traceIs(12, 11, 10);
        x.act(1, 2, 1);
        traceIs(12, 20, 11, 10);
        x.act(2, 1, 1);
        traceIs(11, 30, 10);
        x.act(3, 2, 1);
        traceIs(40, 12, 11, 10, 11, 10);
        x.act(4, 1, 1);
        traceIs(51, 20, 11, 50, 10);
        x.act(5, 2, 1);
        traceIs(60, 12, 11, 30, 10);
        begin(32);
        x.man(6, 3);
        x.act(0, 0, 1);
        traceIs(71, 10);
        x.act(0, 1, 1);
        traceIs(70, 11, 71, 10, 10);
        x.act(0, 2, 1);
        traceIs(40, 12, 70, 11, 71, 10, 10, 70, 11, 71, 10, 10);
        due("far behind", x.trace(20), -1);
        due("far behind", x.trace(Integer.MAX_VALUE), -1);
    }

    private static void taken() {
        begin(33);
        int[] above = {0, 0, 0, 0, 1, 2, 3};
        for (int kind = 0; kind <= 6; kind++) {
            x = new TubeChain();
            x.man(kind, 0);
            for (int k = 0; k <= 6; k++) {
                boolean fits = k == kind || k == above[kind] || k == 0;
                due("KIND " + kind + " taken for " + k, x.taken(0, k), fits ? kind : -12);
            }
            due("BAD", x.taken(9, 7), -2);
            due("BAD", x.taken(0, -1), -2);
            due("NOTHING", x.taken(1, 0), -11);
            due("NOTHING", x.taken(-1, 6), -11);
        }
    }

    private static void count() {
        begin(34);
        x.man(0, 0);
        x.man(0, 0);
        scaffold("rise 1");
        x.see(1);
        x.see(1);
        x.see(1);
        x.book(1, true);
        x.book(1, true);
        x.book(1, true);
        x.book(1, true);
        for (int i = 0; i < 5; i++) {
            x.feed(i);
        }
        x.act(0, 2, 0);
        int[] want = {2, 1, 3, 4, 5, 3};
        for (int what = 0; what < 6; what++) {
            due("count(" + what + ")", x.count(what), want[what]);
        }
        due("count(-1)", x.count(-1), -2);
        due("count(6)", x.count(6), -2);
    }

    private static void tape() {
        begin(35);
        due("sixty", x.tape(5, 4, 60), 1);
        due("the last", x.item(5, 59, 1), 1);
        due("beyond", x.item(5, 60, 1), -13);
        due("anew", x.tape(5, 4, 60), 1);
        due("all 0", x.read(5, 59), 0);
        due("an empty row", x.tape(0, 0, 0), 1);
        due("beyond", x.item(0, 0, 1), -13);
        due("NONE", x.tape(6, 9, -1), -1);
        due("NONE", x.tape(-1, 0, 1), -1);
        due("BAD: sort", x.tape(5, 5, -1), -2);
        due("BAD: sort", x.tape(5, -2, 1), -2);
        due("BAD: n", x.tape(5, 0, 61), -2);
        due("SIZE", x.tape(5, 0, -1), -14);
        due("nothing has changed", x.item(5, 59, 1), 1);
        due("holds nothing", x.tape(5, -1, 99), 1);
        due("holds nothing", x.tape(4, -1, -99), 1);
        due("nothing", x.item(5, 0, 1), -11);
        due("nothing", x.read(5, 0), NO);
    }

    private static void item() {
        begin(36);
        long big = 0x1234_5678_9ABC_DEF0L;
        long[] want = {(byte) 0xF0, (short) 0xDEF0, 0x9ABCDEF0, big, 1};
        for (int sort = 0; sort < 5; sort++) {
            x.tape(sort, sort, 2);
            due("item", x.item(sort, 1, big), 1);
            due("lowest bits of sort " + sort, x.read(sort, 1), want[sort]);
            due("the other", x.read(sort, 0), 0);
            due("item", x.item(sort, 1, 1L << 40), 1);
            due("1L << 40 in sort " + sort, x.read(sort, 1), sort == 3 ? 1L << 40 : sort == 4 ? 1 : 0);
            due("item", x.item(sort, 1, 0), 1);
            due("0 in sort " + sort, x.read(sort, 1), 0);
        }
        due("NONE", x.item(6, 0, 1), -1);
        due("NONE", x.item(-1, 0, 1), -1);
        due("NOTHING", x.item(5, -1, 1), -11);
        due("PLACE", x.item(0, -1, 1), -13);
        due("PLACE", x.item(0, 2, 1), -13);
    }

    private static void read() {
        begin(37);
        x.tape(3, 3, 1);
        x.item(3, 0, -5);
        due("an item", x.read(3, 0), -5);
        due("no place", x.read(3, 1), NO);
        due("no place", x.read(3, -1), NO);
        due("nothing", x.read(2, 0), NO);
        due("no TAPE", x.read(6, 0), NO);
        due("no TAPE", x.read(-1, 0), NO);
    }

    private static void shift() {
        begin(38);
        x.tape(0, 2, 5);
        x.tape(1, 2, 3);
        x.tape(2, 3, 5);
        for (int i = 0; i < 5; i++) {
            x.item(0, i, 10 + i);
        }
        due("to another", x.shift(0, 2, 1, 0, 3), 3);
        due("the first", x.read(1, 0), 12);
        due("the last", x.read(1, 2), 14);
        due("as they all were before", x.shift(0, 0, 0, 1, 4), 4);
        for (int i = 0; i < 5; i++) {
            due("item " + i, x.read(0, i), i == 0 ? 10 : 9 + i);
        }
        due("back", x.shift(0, 1, 0, 0, 4), 4);
        for (int i = 0; i < 5; i++) {
            due("item " + i, x.read(0, i), i == 4 ? 13 : 10 + i);
        }
        due("none, at both ends", x.shift(0, 5, 1, 3, 0), 0);
        due("NONE", x.shift(6, 0, 0, 0, 1), -1);
        due("NONE", x.shift(0, 0, -1, 0, 1), -1);
        due("NONE, nothing", x.shift(5, 0, 6, 0, 1), -1);
        due("NOTHING", x.shift(0, -1, 5, 0, 1), -11);
        due("NOTHING", x.shift(5, 0, 2, 0, 1), -11);
        due("CAST", x.shift(0, -1, 2, 0, 1), -12);
        due("PLACE", x.shift(0, -1, 1, 0, 1), -13);
        due("PLACE", x.shift(0, 0, 1, -1, 1), -13);
        due("PLACE", x.shift(0, 0, 1, 0, -1), -13);
        due("PLACE", x.shift(0, 0, 1, 0, 4), -13);
        due("PLACE", x.shift(0, 3, 1, 0, 3), -13);
        due("PLACE", x.shift(0, 6, 1, 0, 0), -13);
        due("PLACE", x.shift(0, 0, 1, 4, 0), -13);
        due("PLACE", x.shift(0, Integer.MAX_VALUE, 1, 0, Integer.MAX_VALUE), -13);
        due("nothing has come", x.read(1, 0), 12);
    }

    /** What is asked goes on from how all is, and changes nothing. */
    private static void askedChangesNothing() {
        begin(0);
        x.man(3, 0);
        x.man(5, 2);
        x.man(6, 3);
        scaffold("slow 2 l=1|h>5;rest 2");
        x.up(12);
        x.see(1);
        x.book(1, true);
        long before = state();
        x.on(30, 7, 0);
        x.safe(20);
        x.best(20, 0);
        x.slowest();
        x.order(8, 0);
        x.without(1, 30, 7);
        x.pulley(30, 99);
        x.from(30);
        x.rested(20, 15, 9);
        x.change(30, 9);
        x.who(15);
        x.odds(20, 15, 0);
        x.mean(20, 0);
        x.looked(15);
        x.judge(0, 0);
        due("all is as it was", state(), before);
    }

    private static long state() {
        long all = 0;
        for (int m = 0; m < 4; m++) {
            for (int what = 0; what < 7; what++) {
                all = all * 31 + x.of(m, what);
            }
            all = all * 31 + x.told(10 + m);
        }
        for (int what = 0; what < 6; what++) {
            all = all * 31 + x.told(what);
            all = all * 31 + x.count(what);
        }
        return all;
    }
}
