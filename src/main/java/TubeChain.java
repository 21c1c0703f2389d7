import java.util.Arrays;

/** Men on lifts who hand tubes up from one to the next; ../shared/DOC.md says what each call answers. */
public final class TubeChain {
    /** No such number. */
    public static final int NONE = -1;
    /** A number is not as told. */
    public static final int BAD = -2;
    /** How things stand does not let it be. */
    public static final int STATE = -3;
    /** There is no room for one more. */
    public static final int FULL = -4;
    /** There is no such number. */
    public static final long NO = Long.MIN_VALUE;

    private static final int NOTHING = -11;
    private static final int CAST = -12;
    private static final int PLACE = -13;
    private static final int SIZE = -14;
    private static final int NO_ONE = -5;
    private static final int TOO_MANY_TO_ORDER = -9;
    private static final int ONE_FALLS = -100001;
    private static final int BAD_PULLEY = -100002;

    private static final int MOST_MEN = 6;
    private static final int MOST_HELD = 9999;
    private static final int MOST_TENTH = 999999;
    private static final int MOST_COUNTED = 9999;
    private static final int MOST_BEAT = 99;
    private static final int MOST_TUBES = 30;
    private static final int MOST_PROBED = 20;
    private static final int MOST_TEXT = 100;
    private static final int MOST_SCAFFOLDS = 6;
    private static final int MOST_SEEN = 6;
    private static final int MOST_BOOK = 8;
    private static final int MOST_TO_ORDER = 4;
    /** In so many rows can four MEN stand. */
    private static final int MOST_ROWS = 24;
    private static final int MOST_ORDER_TUBES = 8;
    private static final int MOST_TRACE = 20;
    private static final int MOST_TAPES = 6;
    private static final int MOST_ITEMS = 60;
    private static final int ROW = 4;
    private static final int TIRED_BY = 40;
    /** The KIND above each KIND. */
    private static final int[] ABOVE = {-1, 0, 0, 0, 1, 2, 3};

    private final Site now;
    private final Site image;
    private final Trial trial;
    private final Scaffold[] scaffolds;
    private final char[] text;
    private final Tape[] tapes;
    /** How many bodies ran, and behind that the first of them. */
    private final int[] ran;
    private final int[] bestRow;
    private int scaffoldCount;
    private int textLength;
    private boolean hasImage;

    /** Nobody, no SCAFFOLD. */
    public TubeChain() {
        Scaffold plain = new Scaffold(0);
        Man standIn = new Man(0, 0);
        now = new Site(plain, standIn);
        image = new Site(plain, standIn);
        trial = new Trial(new Site(plain, standIn), new Site(plain, standIn));
        scaffolds = new Scaffold[MOST_SCAFFOLDS];
        text = new char[MOST_TEXT];
        tapes = new Tape[MOST_TAPES];
        for (int i = 0; i < MOST_TAPES; i++) {
            tapes[i] = new Tape();
        }
        ran = new int[1 + MOST_TRACE];
        bestRow = new int[MOST_MEN];
    }

    // ---- men, scaffolds, chains

    /** A MAN: its number. */
    public int man(int kind, int v) {
        if (kind < 0 || kind >= ABOVE.length) {
            return NONE;
        }
        if (v < 0 || v > 9) {
            return BAD;
        }
        if (now.manCount >= MOST_MEN) {
            return FULL;
        }
        return now.join(newMan(kind, now.manCount, v));
    }

    private static Man newMan(int kind, int number, int v) {
        switch (kind) {
            case 1: return new Strong(number, v);
            case 2: return new Gloved(number, v);
            case 3: return new Tiring(number, v);
            case 4: return new Calling(number, v);
            case 5: return new Slipping(number, v);
            case 6: return new Told(number, v);
            default: return new Man(number, v);
        }
    }

    /** Of a MAN what 0 KIND, 1 v, 2 HELD, 3 FREE, 4 its place in THE CHAIN, 5 PACE, 6 HOLDS. */
    public int of(int man, int what) {
        if (isNoMan(man)) {
            return NONE;
        }
        switch (what) {
            case 0: return now.men[man].kind();
            case 1: return now.men[man].v;
            case 2: return now.held[man];
            case 3: return now.free[man];
            case 4: return now.placeOf(man);
            case 5: return now.paceAt(now.placeOf(man));
            case 6: return now.holdsAt(now.placeOf(man));
            default: return NONE;
        }
    }

    /** HELD of a MAN becomes n: what it was. */
    public int held(int man, int n) {
        if (isNoMan(man)) {
            return NONE;
        }
        if (n < 0 || n > MOST_HELD) {
            return BAD;
        }
        int was = now.held[man];
        now.held[man] = n;
        return was;
    }

    /** The ROW of a TOLD one becomes n for HELD modulo 4 being part: what it was. */
    public int row(int man, int part, int n) {
        if (isNoMan(man) || part < 0 || part >= ROW) {
            return NONE;
        }
        if (n < 0 || n > 9) {
            return BAD;
        }
        if (!(now.men[man] instanceof Told)) {
            return STATE;
        }
        int was = now.rows[man * ROW + part];
        now.rows[man * ROW + part] = n;
        return was;
    }

    /** A MAN has place k of THE CHAIN then: its place before. */
    public int place(int man, int k) {
        if (isNoMan(man) || k < 0 || k >= now.lineLength) {
            return NONE;
        }
        int was = now.placeOf(man);
        now.removeAt(was);
        now.insertAt(k, man);
        return was;
    }

    /** A sign comes behind THE TEXT's: how many it has. */
    public int feed(int sign) {
        if (sign < 0 || sign > 127) {
            return BAD;
        }
        if (textLength >= MOST_TEXT) {
            return FULL;
        }
        text[textLength] = (char) sign;
        textLength++;
        return textLength;
    }

    /** THE TEXT, which is empty then, is a SCAFFOLD, and holds: its number. */
    public int scaffold() {
        if (scaffoldCount >= MOST_SCAFFOLDS) {
            return FULL;
        }
        // one that had a FAULT was never used, so that its object serves the next text
        if (scaffolds[scaffoldCount] == null) {
            scaffolds[scaffoldCount] = new Scaffold(Scaffold.KNOWN_EACH);
        }
        Scaffold next = scaffolds[scaffoldCount];
        int fault = next.compile(text, textLength);
        textLength = 0;
        if (fault >= 0) {
            return -10 - fault;
        }
        now.scaffold = next;
        scaffoldCount++;
        return scaffoldCount - 1;
    }

    /** What 0 TENTH, 1 UP, 2 FALLEN, 3 RISE, 4 REST, 5 PULL, 10 and k the k-th of THE CHAIN. */
    public int told(int what) {
        switch (what) {
            case 0: return now.tenth;
            case 1: return now.risen;
            case 2: return now.fallen;
            case 3: return now.scaffold.rise;
            case 4: return now.scaffold.rest;
            case 5: return now.scaffold.pull;
            default: break;
        }
        if (what < 10 || what >= 10 + now.lineLength) {
            return NONE;
        }
        return now.line[what - 10];
    }

    // ---- tubes

    /** A THROW: when the TUBE is UP, less when it was thrown; -10 less the number of who lets it fall. */
    public int up(int b) {
        if (isNoBeat(b)) {
            return BAD;
        }
        if (now.tenth + b > MOST_TENTH || now.risen >= MOST_COUNTED || now.fallen >= MOST_COUNTED) {
            return STATE;
        }
        int took = now.throwTube(b);
        now.capHeld();
        return took;
    }

    /** TENTH is n more: TENTH. */
    public int pause(int n) {
        if (n < 0 || n > 9999) {
            return BAD;
        }
        if (now.tenth + n > MOST_TENTH) {
            return STATE;
        }
        now.tenth += n;
        return now.tenth;
    }

    /** ON: what 0 how many, 1 when, 2 who, 3 how many that one. */
    public int on(int n, int b, int what) {
        if (what < 0 || what > 3) {
            return NONE;
        }
        if (n < 0 || n > MOST_TUBES || isNoBeat(b)) {
            return BAD;
        }
        trial.startFrom(now);
        trial.throwTubes(n, b);
        if (what == 0) {
            return trial.risen;
        }
        if (what == 1) {
            return trial.latest;
        }
        int worst = trial.clumsiest();
        if (what == 2) {
            return worst;
        }
        return worst < 0 ? 0 : trial.fellBy[worst];
    }

    // ---- beats, orders

    /** SAFE. */
    public int safe(int n) {
        if (n < 1 || n > MOST_PROBED) {
            return BAD;
        }
        trial.startFrom(now);
        int least = trial.leastSafeBelow(n, MOST_BEAT + 1);
        return least > MOST_BEAT ? NO_ONE : least;
    }

    /** BEST: what 0 the BEAT, 1 how many come UP. */
    public int best(int n, int what) {
        if (what < 0 || what > 1) {
            return NONE;
        }
        if (n < 1 || n > MOST_PROBED) {
            return BAD;
        }
        trial.startFrom(now);
        int bestBeat = 1;
        int most = -1;
        int soonest = 0;
        for (int b = 1; b <= MOST_BEAT; b++) {
            trial.throwTubes(n, b);
            if (trial.risen > most || trial.risen == most && trial.latest < soonest) {
                bestBeat = b;
                most = trial.risen;
                soonest = trial.latest;
            }
        }
        return what == 0 ? bestBeat : most;
    }

    /** SLOWEST. */
    public int slowest() {
        int slowest = NO_ONE;
        int longest = 0;
        for (int p = 0; p < now.lineLength; p++) {
            int holds = now.holdsAt(p);
            if (holds > longest) {
                slowest = now.line[p];
                longest = holds;
            }
        }
        return slowest;
    }

    /** ORDER: k -1 SAFE, else the k-th. */
    public int order(int n, int k) {
        if (k < -1 || k >= MOST_TO_ORDER) {
            return NONE;
        }
        if (n < 1 || n > MOST_ORDER_TUBES) {
            return BAD;
        }
        if (now.manCount > MOST_TO_ORDER) {
            return TOO_MANY_TO_ORDER;
        }
        trial.startFrom(now);
        Site tried = trial.start;
        tried.lineUpByNumber();
        System.arraycopy(tried.line, 0, bestRow, 0, MOST_MEN);
        int least = MOST_BEAT + 1;
        for (int rows = 0; rows < MOST_ROWS; rows++) {
            int safe = trial.leastSafeBelow(n, least);
            if (safe < least) {
                least = safe;
                System.arraycopy(tried.line, 0, bestRow, 0, MOST_MEN);
            }
            if (!tried.lineUpNext()) {
                break;
            }
        }
        if (k < 0) {
            return least > MOST_BEAT ? NO_ONE : least;
        }
        return k < now.manCount ? bestRow[k] : NO_ONE;
    }

    /** WITHOUT. */
    public int without(int man, int n, int b) {
        if (isNoMan(man)) {
            return NONE;
        }
        if (isNoCount(n) || isNoBeat(b)) {
            return BAD;
        }
        trial.startFrom(now);
        trial.start.removeAt(now.placeOf(man));
        trial.throwTubes(n, b);
        return trial.risen;
    }

    // ---- pulleys, rests, changes

    /** PULLEY. */
    public int pulley(int n, int b) {
        if (isNoCount(n) || isNoBeat(b)) {
            return BAD_PULLEY;
        }
        trial.startFrom(now);
        return pulleyLoses(n, b);
    }

    private int pulleyLoses(int n, int b) {
        trial.throwTubes(n, b);
        if (trial.fell != 0) {
            return ONE_FALLS;
        }
        return n * now.scaffold.pull + now.scaffold.rise * now.manCount - trial.latest;
    }

    /** FROM. */
    public int from(int b) {
        if (isNoBeat(b)) {
            return BAD;
        }
        trial.startFrom(now);
        for (int n = 1; n <= MOST_TUBES; n++) {
            if (pulleyLoses(n, b) > 0) {
                return n;
            }
        }
        return NO_ONE;
    }

    /** RESTED. */
    public int rested(int n, int b, int r) {
        if (n < 1 || n > MOST_PROBED || isNoBeat(b) || r < 1 || r > 60) {
            return BAD;
        }
        trial.startFrom(now);
        for (int j = MOST_PROBED; j >= 1; j--) {
            if (trial.noneFalls(n, b, j, r)) {
                return j;
            }
        }
        return NO_ONE;
    }

    /** CHANGE. */
    public int change(int n, int b) {
        if (isNoCount(n) || isNoBeat(b)) {
            return BAD;
        }
        trial.startFrom(now);
        trial.throwTubes(n, b);
        int most = trial.risen;
        int places = NO_ONE;
        for (int p = 0; p < now.lineLength; p++) {
            for (int q = p + 1; q < now.lineLength; q++) {
                trial.start.exchange(p, q);
                trial.throwTubes(n, b);
                trial.start.exchange(p, q);
                if (trial.risen > most) {
                    most = trial.risen;
                    places = 10 * p + q;
                }
            }
        }
        return places;
    }

    // ---- seen, odds, books

    /** A number is SEEN: how many there are. */
    public int see(int tube) {
        if (tube < -1 || tube >= MOST_PROBED) {
            return BAD;
        }
        if (tube == -1) {
            now.seenCount = 0;
            return 0;
        }
        if (now.seenCount >= MOST_SEEN) {
            return FULL;
        }
        now.seen[now.seenCount] = tube;
        now.seenCount++;
        return now.seenCount;
    }

    /** WHO, as bits. */
    public int who(int b) {
        if (isNoBeat(b)) {
            return BAD;
        }
        int asSeen = now.seenAsBits();
        int suspects = 0;
        for (int man = 0; man < now.manCount; man++) {
            startWithTired(man);
            trial.throwTubes(MOST_PROBED, b);
            if (trial.fell == asSeen) {
                suspects |= 1 << man;
            }
        }
        return suspects;
    }

    private void startWithTired(int man) {
        trial.startFrom(now);
        trial.start.held[man] += TIRED_BY;
    }

    /** ODDS; part 0 above, 1 below the line. */
    public long odds(int n, int b, int part) {
        if (n < 1 || n > MOST_PROBED || isNoBeat(b) || isNoPart(part) || now.manCount == 0) {
            return NO;
        }
        int good = 0;
        for (int man = 0; man < now.manCount; man++) {
            startWithTired(man);
            if (trial.noneFalls(n, b, 0, 0)) {
                good++;
            }
        }
        return partOfFraction(good, now.manCount, part);
    }

    /** MEAN; part likewise. */
    public long mean(int n, int part) {
        if (n < 1 || n > MOST_PROBED || isNoPart(part)) {
            return NO;
        }
        trial.startFrom(now);
        int sum = 0;
        for (int b = 1; b <= 20; b++) {
            trial.throwTubes(n, b);
            sum += trial.risen;
        }
        return partOfFraction(sum, 20, part);
    }

    private static long partOfFraction(int above, int below, int part) {
        int divisor = 1;
        for (int d = 2; d <= below; d++) {
            if (above % d == 0 && below % d == 0) {
                divisor = d;
            }
        }
        return (part == 0 ? above : below) / divisor;
    }

    /** A row comes to the BOOK: how many there are. */
    public int book(int tube, boolean isUp) {
        if (tube < -1 || tube >= MOST_PROBED) {
            return BAD;
        }
        if (tube == -1) {
            now.bookCount = 0;
            return 0;
        }
        if (now.bookCount >= MOST_BOOK) {
            return FULL;
        }
        now.book[now.bookCount] = 2 * tube + (isUp ? 1 : 0);
        now.bookCount++;
        return now.bookCount;
    }

    /** LOOKED. */
    public int looked(int b) {
        if (isNoBeat(b)) {
            return BAD;
        }
        trial.startFrom(now);
        trial.throwTubes(MOST_PROBED, b);
        for (int i = 0; i < now.bookCount; i++) {
            int tube = now.book[i] / 2;
            boolean saidUp = now.book[i] % 2 == 1;
            boolean isUp = (trial.fell >> tube & 1) == 0;
            if (saidUp != isUp) {
                return i;
            }
        }
        return NO_ONE;
    }

    // ---- judging, the image, acts, tapes

    /** JUDGED from place i of a TAPE on. */
    public int judge(int tape, int i) {
        if (isNoTape(tape)) {
            return NONE;
        }
        Tape row = tapes[tape];
        if (row.sort != Tape.EMPTY && row.sort != Tape.INTS) {
            return CAST;
        }
        // with nobody there the row is never looked at, so that it may be anything
        for (int man = 0; man < now.manCount; man++) {
            if (i < 0 || (long) i + man >= row.length) {
                return 100 + man;
            }
            if (row.items[i + man] != now.free[man]) {
                return man;
            }
        }
        return NO_ONE;
    }

    /** THE IMAGE is taken: how many MEN there are. */
    public int image() {
        image.copyChain(now);
        image.copyNotes(now);
        hasImage = true;
        return now.manCount;
    }

    /** All is as THE IMAGE: how many MEN. */
    public int undo() {
        if (!hasImage) {
            return STATE;
        }
        now.copyChain(image);
        now.copyNotes(image);
        return now.manCount;
    }

    /** An ACT of a MAN with x. */
    public int act(int man, int act, int x) {
        ran[0] = 0;
        if (isNoMan(man)) {
            return 0;
        }
        switch (act) {
            case 0: return now.men[man].tosses(x, ran);
            case 1: return now.men[man].takes(x, ran);
            case 2: return now.men[man].tells(x, ran);
            default: return 0;
        }
    }

    /** THE TRACE's i-th body. */
    public int trace(int i) {
        if (i < 0 || i >= MOST_TRACE || i >= ran[0]) {
            return NONE;
        }
        return ran[1 + i];
    }

    /** A MAN taken for one of KIND k, or one under that: its KIND. */
    public int taken(int man, int k) {
        if (k < 0 || k >= ABOVE.length) {
            return BAD;
        }
        if (isNoMan(man)) {
            return NOTHING;
        }
        int kind = now.men[man].kind();
        int above = kind;
        for (int steps = 0; steps < ABOVE.length && above >= 0 && above < ABOVE.length; steps++) {
            if (above == k) {
                return kind;
            }
            above = ABOVE[above];
        }
        return CAST;
    }

    /** How many: 0 MEN, 1 SCAFFOLDS, 2 SEEN, 3 of the BOOK, 4 bytes of THE TEXT, 5 bodies that ran. */
    public int count(int what) {
        switch (what) {
            case 0: return now.manCount;
            case 1: return scaffoldCount;
            case 2: return now.seenCount;
            case 3: return now.bookCount;
            case 4: return textLength;
            case 5: return ran[0];
            default: return BAD;
        }
    }

    /** A TAPE becomes a row of n of a sort, all 0, or holds nothing: 1. */
    public int tape(int tape, int sort, int n) {
        if (isNoTape(tape)) {
            return NONE;
        }
        if (sort < Tape.EMPTY || sort > Tape.BOOLEANS) {
            return BAD;
        }
        if (sort == Tape.EMPTY) {
            tapes[tape].become(sort, 0);
            return 1;
        }
        if (n > MOST_ITEMS) {
            return BAD;
        }
        if (n < 0) {
            return SIZE;
        }
        tapes[tape].become(sort, n);
        return 1;
    }

    /** Item i of a TAPE becomes v: 1. */
    public int item(int tape, int i, long v) {
        if (isNoTape(tape)) {
            return NONE;
        }
        Tape row = tapes[tape];
        if (row.sort == Tape.EMPTY) {
            return NOTHING;
        }
        if (i < 0 || i >= row.length) {
            return PLACE;
        }
        row.items[i] = row.fit(v);
        return 1;
    }

    /** Item i of a TAPE. */
    public long read(int tape, int i) {
        if (isNoTape(tape)) {
            return NO;
        }
        Tape row = tapes[tape];
        if (i < 0 || i >= row.length) {
            return NO;
        }
        return row.items[i];
    }

    /** n items of a TAPE from i on come to another one (or the same) from j on, as they all were before: n. */
    public int shift(int tape, int i, int other, int j, int n) {
        if (isNoTape(tape) || isNoTape(other)) {
            return NONE;
        }
        Tape from = tapes[tape];
        Tape to = tapes[other];
        if (from.sort == Tape.EMPTY || to.sort == Tape.EMPTY) {
            return NOTHING;
        }
        if (from.sort != to.sort) {
            return CAST;
        }
        if (!from.has(i, n) || !to.has(j, n)) {
            return PLACE;
        }
        System.arraycopy(from.items, i, to.items, j, n);
        return n;
    }

    private boolean isNoMan(int man) {
        return man < 0 || man >= now.manCount;
    }

    private static boolean isNoBeat(int b) {
        return b < 1 || b > MOST_BEAT;
    }

    private static boolean isNoCount(int n) {
        return n < 1 || n > MOST_TUBES;
    }

    private static boolean isNoPart(int part) {
        return part < 0 || part > 1;
    }

    private static boolean isNoTape(int tape) {
        return tape < 0 || tape >= MOST_TAPES;
    }

    /** KIND 0, above all others. What changes of a MAN stands in the Site, so that copies of it may share him. */
    private static class Man {
        final int number;
        final int v;

        Man(int number, int v) {
            this.number = number;
            this.v = v;
        }

        int kind() {
            return 0;
        }

        /** HOLDS; rowed is what the ROW says for HELD as it is. */
        int holds(int pace, int heldSoFar, int rowed) {
            return pace;
        }

        boolean slips(int heldSoFar) {
            return false;
        }

        static void begin(int body, int[] ran) {
            ran[0]++;
            if (ran[0] < ran.length) {
                ran[ran[0]] = body;
            }
        }

        int tosses(int x, int[] ran) {
            begin(10, ran);
            return x + number;
        }

        int takes(int x, int[] ran) {
            begin(11, ran);
            return tosses(x, ran) - v;
        }

        int tells(int x, int[] ran) {
            begin(12, ran);
            return takes(x, ran) * 2;
        }
    }

    private static class Strong extends Man {
        Strong(int number, int v) {
            super(number, v);
        }

        int kind() {
            return 1;
        }

        int holds(int pace, int heldSoFar, int rowed) {
            return Math.max(1, pace - v / 2);
        }

        int takes(int x, int[] ran) {
            begin(20, ran);
            return super.takes(x, ran) ^ 6;
        }
    }

    private static class Gloved extends Man {
        Gloved(int number, int v) {
            super(number, v);
        }

        int kind() {
            return 2;
        }

        int holds(int pace, int heldSoFar, int rowed) {
            return pace + 2;
        }

        int tosses(int x, int[] ran) {
            begin(30, ran);
            return super.tosses(x * 3, ran);
        }
    }

    private static class Tiring extends Man {
        Tiring(int number, int v) {
            super(number, v);
        }

        int kind() {
            return 3;
        }

        int holds(int pace, int heldSoFar, int rowed) {
            return pace + heldSoFar / 8;
        }

        int tells(int x, int[] ran) {
            begin(40, ran);
            return super.tells(x, ran) + takes(1, ran);
        }
    }

    private static final class Calling extends Strong {
        Calling(int number, int v) {
            super(number, v);
        }

        int kind() {
            return 4;
        }

        int holds(int pace, int heldSoFar, int rowed) {
            return Math.max(1, super.holds(pace, heldSoFar, rowed) / 2);
        }

        int tosses(int x, int[] ran) {
            begin(50, ran);
            return -super.tosses(x, ran);
        }

        int takes(int x, int[] ran) {
            begin(51, ran);
            return super.takes(x + 1, ran);
        }
    }

    private static final class Slipping extends Gloved {
        Slipping(int number, int v) {
            super(number, v);
        }

        int kind() {
            return 5;
        }

        boolean slips(int heldSoFar) {
            return (heldSoFar + 1) % (v + 2) == 0;
        }

        int tells(int x, int[] ran) {
            begin(60, ran);
            return super.tells(x - number, ran);
        }
    }

    private static final class Told extends Tiring {
        Told(int number, int v) {
            super(number, v);
        }

        int kind() {
            return 6;
        }

        int holds(int pace, int heldSoFar, int rowed) {
            return super.holds(pace, heldSoFar, rowed) + rowed;
        }

        int takes(int x, int[] ran) {
            begin(70, ran);
            return super.takes(x, ran) + super.tosses(2, ran);
        }

        int tosses(int x, int[] ran) {
            begin(71, ran);
            return super.tosses(x, ran) ^ v;
        }
    }

    /** All that THE IMAGE keeps: the MEN, THE CHAIN and the clock, and by hand what is SEEN and the BOOK. */
    private static final class Site {
        final Man[] men = new Man[MOST_MEN];
        final int[] held = new int[MOST_MEN];
        final int[] free = new int[MOST_MEN];
        final int[] rows = new int[MOST_MEN * ROW];
        /** THE CHAIN. */
        final int[] line = new int[MOST_MEN];
        final int[] seen = new int[MOST_SEEN];
        /** Twice the number of a TUBE, and 1 if it is told to come UP. */
        final int[] book = new int[MOST_BOOK];
        int manCount;
        int lineLength;
        int tenth;
        int risen;
        int fallen;
        int seenCount;
        int bookCount;
        /** The one that holds; one without CLAUSES stands in for none. */
        Scaffold scaffold;

        /** The stand-in takes the places of those who have not come yet, so that none is ever null. */
        Site(Scaffold plain, Man standIn) {
            scaffold = plain;
            for (int i = 0; i < MOST_MEN; i++) {
                men[i] = standIn;
            }
        }

        void copyChain(Site other) {
            System.arraycopy(other.men, 0, men, 0, MOST_MEN);
            System.arraycopy(other.held, 0, held, 0, MOST_MEN);
            System.arraycopy(other.free, 0, free, 0, MOST_MEN);
            System.arraycopy(other.rows, 0, rows, 0, MOST_MEN * ROW);
            System.arraycopy(other.line, 0, line, 0, MOST_MEN);
            manCount = other.manCount;
            lineLength = other.lineLength;
            tenth = other.tenth;
            risen = other.risen;
            fallen = other.fallen;
            scaffold = other.scaffold;
        }

        void copyNotes(Site other) {
            System.arraycopy(other.seen, 0, seen, 0, MOST_SEEN);
            System.arraycopy(other.book, 0, book, 0, MOST_BOOK);
            seenCount = other.seenCount;
            bookCount = other.bookCount;
        }

        int join(Man man) {
            int number = manCount;
            if (number >= MOST_MEN) {
                return FULL;
            }
            men[number] = man;
            held[number] = 0;
            free[number] = 0;
            for (int part = 0; part < ROW; part++) {
                rows[number * ROW + part] = 0;
            }
            manCount++;
            insertAt(lineLength, number);
            return number;
        }

        int placeOf(int man) {
            for (int p = 0; p < lineLength; p++) {
                if (line[p] == man) {
                    return p;
                }
            }
            return NONE;
        }

        void removeAt(int p) {
            if (p < 0 || p >= lineLength) {
                return;
            }
            System.arraycopy(line, p + 1, line, p, lineLength - p - 1);
            lineLength--;
        }

        void insertAt(int p, int man) {
            if (p < 0 || p > lineLength || lineLength >= MOST_MEN) {
                return;
            }
            System.arraycopy(line, p, line, p + 1, lineLength - p);
            line[p] = man;
            lineLength++;
        }

        void exchange(int p, int q) {
            int man = line[p];
            line[p] = line[q];
            line[q] = man;
        }

        void lineUpByNumber() {
            for (int p = 0; p < lineLength; p++) {
                line[p] = p;
            }
        }

        /** The next row by size, as numbers are counted: false if this one was the last. */
        boolean lineUpNext() {
            int p = lineLength - 2;
            while (p >= 0 && line[p] > line[p + 1]) {
                p--;
            }
            if (p < 0) {
                return false;
            }
            int q = lineLength - 1;
            while (q > p && line[q] < line[p]) {
                q--;
            }
            exchange(p, q);
            for (int from = p + 1, to = lineLength - 1; from < to; from++, to--) {
                exchange(from, to);
            }
            return true;
        }

        int paceAt(int p) {
            if (p < 0 || p >= lineLength) {
                return NONE;
            }
            int man = line[p];
            return scaffold.pace(men[man], p, held[man]);
        }

        int holdsAt(int p) {
            if (p < 0 || p >= lineLength) {
                return NONE;
            }
            int man = line[p];
            int pace = scaffold.pace(men[man], p, held[man]);
            return men[man].holds(pace, held[man], rows[man * ROW + held[man] % ROW]);
        }

        /** A THROW: how long the TUBE takes to be UP, or -10 less the number of who lets it fall. */
        int throwTube(int beat) {
            int thrown = tenth;
            int comes = thrown + scaffold.rise;
            tenth += beat;
            for (int p = 0; p < lineLength; p++) {
                int man = line[p];
                if (comes < free[man]) {
                    fallen++;
                    return -10 - man;
                }
                if (men[man].slips(held[man])) {
                    held[man]++;
                    fallen++;
                    return -10 - man;
                }
                int holds = holdsAt(p);
                held[man]++;
                free[man] = comes + holds + scaffold.rest;
                comes += holds + scaffold.rise;
            }
            risen++;
            return comes - thrown;
        }

        /** HELD is 9999 at most where it is not only asked. */
        void capHeld() {
            for (int man = 0; man < MOST_MEN; man++) {
                held[man] = Math.min(held[man], MOST_HELD);
            }
        }

        int seenAsBits() {
            int bits = 0;
            for (int i = 0; i < seenCount; i++) {
                bits |= 1 << seen[i];
            }
            return bits;
        }
    }

    /** What would be: THROWS on a copy, so that what is asked changes nothing. */
    private static final class Trial {
        /** How all would be at first. */
        final Site start;
        final Site run;
        /** How many TUBES each MAN let fall. */
        final int[] fellBy = new int[MOST_MEN];
        int risen;
        /** When the latest one came UP, less TENTH at first. */
        int latest;
        /** The numbers of those that fell, as bits. */
        int fell;

        Trial(Site start, Site run) {
            this.start = start;
            this.run = run;
        }

        void startFrom(Site now) {
            start.copyChain(now);
        }

        void throwTubes(int n, int b) {
            run.copyChain(start);
            Arrays.fill(fellBy, 0);
            risen = 0;
            latest = 0;
            fell = 0;
            for (int tube = 0; tube < n; tube++) {
                int thrown = run.tenth - start.tenth;
                int took = run.throwTube(b);
                if (took >= 0) {
                    risen++;
                    latest = Math.max(latest, thrown + took);
                } else {
                    fell |= 1 << tube;
                    blame(-10 - took);
                }
            }
        }

        private void blame(int man) {
            if (man >= 0 && man < MOST_MEN) {
                fellBy[man]++;
            }
        }

        /** Whether none falls, if TENTH is r more behind each THROW whose number is a multiple of j (0: of none). */
        boolean noneFalls(int n, int b, int j, int r) {
            run.copyChain(start);
            for (int number = 1; number <= n; number++) {
                if (run.throwTube(b) < 0) {
                    return false;
                }
                if (j > 0 && number % j == 0) {
                    run.tenth += r;
                }
            }
            return true;
        }

        /** The least BEAT below a limit with which none falls; the limit, if there is none. */
        int leastSafeBelow(int n, int limit) {
            for (int b = 1; b < limit; b++) {
                if (noneFalls(n, b, 0, 0)) {
                    return b;
                }
            }
            return limit;
        }

        int clumsiest() {
            int worst = NO_ONE;
            int most = 0;
            for (int man = 0; man < MOST_MEN; man++) {
                if (fellBy[man] > most) {
                    worst = man;
                    most = fellBy[man];
                }
            }
            return worst;
        }
    }

    /** The CLAUSES of a text, read once into codes: tests, behind them what joins them, behind that what it adds. */
    private static final class Scaffold {
        private static final int WIDTH = 5;
        /** Each word, filled up by dots. */
        private static final String WORDS = "slow.quickrise.rest.pull.";
        private static final int SLOW = 0;
        private static final int QUICK = 1;
        private static final int RISE = 2;
        private static final int REST = 3;
        private static final String LETTERS = "mklhtv";
        private static final String SIGNS = "<=>";
        private static final int NOT = -1;
        private static final int AND = -2;
        private static final int OR = -3;
        /** Less the n of the CLAUSE that ends there: down to -199, and to -399. */
        private static final int ADD = -100;
        private static final int TAKE_AWAY = -300;
        private static final int MOST_CLAUSES = 10;
        private static final int DEEPEST = 4;
        /** From HELD now on to 40 and 20 more, no two share one. */
        private static final int KNOWN_EACH = 64;
        /** Above every PACE: ten CLAUSES of 99, and 8. */
        private static final int PACES = 1024;

        private final int[] codes = new int[MOST_TEXT];
        /** What the letters mean of the MAN that is looked at. */
        private final int[] values = new int[6];
        /** PACES reckoned before, each with all that it hangs on: orders and beats ask for the same ones often. */
        private final long[] known;
        private char[] text;
        private int codeCount;
        private int length;
        private int at;
        int rise = 5;
        int rest = 3;
        int pull = 40;

        /** How many HELD of each MAN at each place are known at once: none, if there will be no CLAUSES. */
        Scaffold(int knownEach) {
            known = new long[MOST_MEN * MOST_MEN * Math.max(0, knownEach)];
            text = new char[0];
        }

        /** The text becomes this: -1, or the FAULT. */
        int compile(char[] signs, int size) {
            text = signs;
            length = Math.min(size, signs.length);
            at = 0;
            codeCount = 0;
            rise = 5;
            rest = 3;
            pull = 40;
            for (int n = 1; n <= MOST_CLAUSES; n++) {
                if (!readClause()) {
                    return at;
                }
                if (at >= length) {
                    return -1;
                }
                // behind the last one that may be, a ; begins nothing
                if (n == MOST_CLAUSES || !passes(';')) {
                    return at;
                }
            }
            return at;
        }

        /** Each of these is true when it has read its part; when not, it has come to the FAULT. */
        private boolean readClause() {
            int word = readWord();
            if (word < 0 || !passes(' ')) {
                return false;
            }
            int n = readNumber();
            if (n < 0) {
                return false;
            }
            switch (word) {
                case SLOW: return passes(' ') && readEither(0) && emit(ADD - n);
                case QUICK: return passes(' ') && readEither(0) && emit(TAKE_AWAY - n);
                case RISE: rise = n; return true;
                case REST: rest = n; return true;
                default: pull = Math.max(1, n); return true;
            }
        }

        private boolean passes(char sign) {
            if (at >= length || text[at] != sign) {
                return false;
            }
            at++;
            return true;
        }

        private int readWord() {
            int farthest = 0;
            for (int first = 0; first < WORDS.length(); first += WIDTH) {
                int same = 0;
                while (same < WIDTH && WORDS.charAt(first + same) != '.'
                        && at + same < length && WORDS.charAt(first + same) == text[at + same]) {
                    same++;
                }
                if (same == WIDTH || WORDS.charAt(first + same) == '.') {
                    at += same;
                    return first / WIDTH;
                }
                farthest = Math.max(farthest, same);
            }
            at += farthest;
            return NONE;
        }

        private int readNumber() {
            int n = NONE;
            for (int digits = 0; digits < 2; digits++) {
                if (at >= length || text[at] < '0' || text[at] > '9') {
                    return n;
                }
                n = Math.max(n, 0) * 10 + text[at] - '0';
                at++;
            }
            return n;
        }

        /** An E. */
        private boolean readEither(int depth) {
            for (int n = 0; n < MOST_TEXT; n++) {
                if (!readBoth(depth)) {
                    return false;
                }
                if (n > 0) {
                    emit(OR);
                }
                if (!passes('|')) {
                    return true;
                }
            }
            return false;
        }

        /** A T. */
        private boolean readBoth(int depth) {
            for (int n = 0; n < MOST_TEXT; n++) {
                if (!readOne(depth)) {
                    return false;
                }
                if (n > 0) {
                    emit(AND);
                }
                if (!passes('&')) {
                    return true;
                }
            }
            return false;
        }

        /** An F, within so many ( and !. */
        private boolean readOne(int depth) {
            if (at >= length) {
                return false;
            }
            boolean isNot = text[at] == '!';
            if (!isNot && text[at] != '(') {
                return readTest();
            }
            if (depth >= DEEPEST) {
                return false;
            }
            at++;
            if (isNot) {
                return readOne(depth + 1) && emit(NOT);
            }
            return readEither(depth + 1) && passes(')');
        }

        private boolean readTest() {
            int letter = LETTERS.indexOf(text[at]);
            if (letter < 0) {
                return false;
            }
            at++;
            int sign = at < length ? SIGNS.indexOf(text[at]) : NONE;
            if (sign < 0) {
                return false;
            }
            at++;
            int n = readNumber();
            return n >= 0 && emit((letter * 3 + sign) * 100 + n);
        }

        private boolean emit(int code) {
            if (codeCount >= codes.length) {
                return false;
            }
            codes[codeCount] = code;
            codeCount++;
            return true;
        }

        int pace(Man man, int p, int heldSoFar) {
            // from 1000 on, only the last digit tells
            int heldKey = heldSoFar < 1000 ? heldSoFar : 990 + heldSoFar % 10;
            int slot = (man.number * MOST_MEN + p) * KNOWN_EACH + heldSoFar % KNOWN_EACH;
            if (slot < 0 || slot >= known.length) {
                return reckonPace(man, p, heldSoFar);
            }
            long tag = ((man.number * 7 + man.kind()) * 10 + man.v) * MOST_MEN + p;
            tag = tag * 1000 + heldKey;
            if (known[slot] / PACES == tag && known[slot] % PACES != 0) {
                return (int) (known[slot] % PACES);
            }
            int pace = reckonPace(man, p, heldSoFar);
            known[slot] = tag * PACES + pace;
            return pace;
        }

        private int reckonPace(Man man, int p, int heldSoFar) {
            values[0] = man.number;
            values[1] = man.kind();
            values[2] = p;
            values[3] = heldSoFar % 10;
            values[4] = Math.min(99, heldSoFar / 10);
            values[5] = man.v;
            int pace = 8;
            // what is not joined yet stands in bits, the latest lowest: at most eleven, by how deep an E goes
            int bits = 0;
            for (int i = 0; i < codeCount && i < codes.length; i++) {
                int code = codes[i];
                if (code >= 0) {
                    bits = bits << 1 | test(code);
                } else if (code == NOT) {
                    bits ^= 1;
                } else if (code == AND) {
                    bits = bits >> 1 & (bits | ~1);
                } else if (code == OR) {
                    bits = bits >> 1 | bits & 1;
                } else {
                    int amount = code > TAKE_AWAY ? ADD - code : code - TAKE_AWAY;
                    pace += bits * amount;
                    bits = 0;
                }
            }
            return Math.max(1, pace);
        }

        private int test(int code) {
            int value = values[code / 300 % values.length];
            int n = code % 100;
            switch (code / 100 % 3) {
                case 0: return value < n ? 1 : 0;
                case 1: return value == n ? 1 : 0;
                default: return value > n ? 1 : 0;
            }
        }
    }

    /** A TAPE: a row of numbers, whatever its sort; its object serves all rows that it becomes. */
    private static final class Tape {
        static final int EMPTY = -1;
        static final int BYTES = 0;
        static final int SHORTS = 1;
        static final int INTS = 2;
        static final int BOOLEANS = 4;

        final long[] items = new long[MOST_ITEMS];
        int sort = EMPTY;
        int length;

        void become(int newSort, int n) {
            sort = newSort;
            length = n;
            Arrays.fill(items, 0L);
        }

        /** The lowest bits of v, as many as an item has. */
        long fit(long v) {
            switch (sort) {
                case BYTES: return (byte) v;
                case SHORTS: return (short) v;
                case INTS: return (int) v;
                case BOOLEANS: return v != 0 ? 1 : 0;
                default: return v;
            }
        }

        boolean has(int i, int n) {
            return i >= 0 && n >= 0 && (long) i + n <= length;
        }
    }
}
