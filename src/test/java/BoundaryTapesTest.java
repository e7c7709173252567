import java.util.function.Supplier;

/**
 * Promises 30 to 40, each sentence that names a boundary on its own: rows that end too early, an IMAGE of an empty or a
 * full object, acts that wrap, TAPES of 0 and of 60, places at either end, and runs of 512 calls.
 */
public final class BoundaryTapesTest {
    private static final Check CHECK = new Check("boundaries: image, acts, tapes");
    private static final Twins TWINS = new Twins(CHECK);
    private static final int LOW = Integer.MIN_VALUE, HIGH = Integer.MAX_VALUE;
    private static final int NONE = -1, BAD = -2, STATE = -3, NONE_FOUND = -5;
    private static final int NOTHING = -11, CAST = -12, PLACE = -13, SIZE = -14;
    private static final long NO = Long.MIN_VALUE;

    private BoundaryTapesTest() {
    }

    public static void main(String[] args) {
        judgeNumbers();
        judgeFirstWord();
        judgeNobody();
        judgeRowEnds();
        judgeOtherwise();
        image();
        undoNone();
        undoAll();
        undoAtFirst();
        undoFull();
        actNumbers();
        actNoTrace();
        actWraps();
        traceNumbers();
        takenNumbers();
        takenCast();
        countNumbers();
        tapeNumbers();
        tapeFirstWord();
        tapeAnew();
        itemNumbers();
        itemLowestBits();
        readNumbers();
        shiftNumbers();
        shiftFirstWord();
        shiftEnds();
        shiftAsBefore();
        callsAll();
        CHECK.end();
    }

    /** "JUDGED from place i of a TAPE on. NONE: tape; CAST: it is no row of shorts." */
    private static void judgeNumbers() {
        CHECK.promise(30);
        for (int tape : new int[] {-1, 6, LOW, HIGH}) {
            TWINS.refused("TAPE " + tape, NONE, x -> x.judge(tape, 0));
        }
        for (int tape : new int[] {0, 2, 3, 4}) {
            TWINS.refused("sort " + tape, CAST, x -> x.judge(tape, 0));
        }
        for (int i : new int[] {-1, 0, 3, 4, LOW, HIGH}) {
            TWINS.asked("judge(1, " + i + ")", x -> x.judge(1, i));
        }
        TWINS.asked("judge(5, 0)", x -> x.judge(5, 0));
    }

    /** NONE, then CAST, then whatever is JUDGED; a TAPE that holds nothing is told of as too short a row. */
    private static void judgeFirstWord() {
        CHECK.promise(30);
        TwoServes x = Courts.with(0, 0, 5, 5);
        CHECK.due("TAPE, and the place", x.judge(6, -1), NONE);
        x.tape(0, 2, 0);
        CHECK.due("no shorts, and the place", x.judge(0, -1), CAST);
        CHECK.due("no shorts, and they end", x.judge(0, 0), CAST);
        CHECK.due("nothing, and the place", x.judge(1, -1), 100);
        x.tape(0, -1, 0);
        CHECK.due("nothing any more", x.judge(0, 0), 100);
    }

    /** "-5: .. there is none to look at" */
    private static void judgeNobody() {
        CHECK.promise(30);
        TwoServes x = new TwoServes();
        CHECK.due("nothing, and nobody", x.judge(5, 0), NONE_FOUND);
        x.tape(5, 1, 0);
        CHECK.due("a row of 0", x.judge(5, 0), NONE_FOUND);
        for (int i : new int[] {-1, 1, LOW, HIGH}) {
            CHECK.due("place " + i, x.judge(5, i), NONE_FOUND);
        }
    }

    /** "100 and how many were looked at, if the row ends ahead of that (or the place is below 0 ..)" */
    private static void judgeRowEnds() {
        CHECK.promise(30);
        TwoServes x = new TwoServes();
        for (int n = 0; n < 4; n++) {
            x.server(0, 0, 5, 5);
        }
        for (int n = 0; n <= 5; n++) {
            x.tape(0, 1, n);
            CHECK.due("a row of " + n, x.judge(0, 0), n < 4 ? 100 + n : NONE_FOUND);
        }
        x.tape(0, 1, 60);
        int[][] placeDue = {{-1, 100}, {0, -5}, {56, -5}, {57, 103}, {58, 102}, {59, 101}, {60, 100}, {61, 100},
            {LOW, 100}, {HIGH, 100}, {HIGH - 1, 100}, {HIGH - 3, 100}};
        for (int[] p : placeDue) {
            CHECK.due("from " + p[0], x.judge(0, p[0]), p[1]);
        }
    }

    /** "the first that is otherwise": SERVED 0 .. 9999 by shorts, which may be below 0. */
    private static void judgeOtherwise() {
        CHECK.promise(30);
        TwoServes x = new TwoServes();
        for (int n = 0; n < 4; n++) {
            x.server(0, 0, 5, 5);
            x.set(n, 2, n == 0 ? 9999 : n);
        }
        x.tape(2, 1, 4);
        CHECK.due("0 is", x.judge(2, 0), 0);
        x.item(2, 0, 9999);
        for (int n = 1; n < 4; n++) {
            CHECK.due(n + " is", x.judge(2, 0), n);
            x.item(2, n, n);
        }
        CHECK.due("none is", x.judge(2, 0), NONE_FOUND);
        x.item(2, 0, 9998);
        CHECK.due("1 less", x.judge(2, 0), 0);
        x.item(2, 0, 10000);
        CHECK.due("1 more", x.judge(2, 0), 0);
        x.item(2, 0, 9999 + 65536);
        CHECK.due("its lowest bits", x.judge(2, 0), NONE_FOUND);
        x.item(2, 3, -3);
        CHECK.due("below 0", x.judge(2, 0), 3);
        x.tape(3, 1, 3);
        x.item(3, 0, 9999);
        x.item(3, 1, 1);
        CHECK.due("otherwise ahead of the end", x.judge(3, 0), 2);
        x.item(3, 2, 2);
        CHECK.due("then the end", x.judge(3, 0), 103);
    }

    /** "THE IMAGE is taken: how many SERVERS there are." It changes nothing but itself. */
    private static void image() {
        CHECK.promise(31);
        TwoServes x = new TwoServes();
        for (int n = 0; n <= 4; n++) {
            CHECK.due("of " + n, x.image(), n);
            x.server(0, 0, 5, 5);
        }
        TwoServes twice = Twins.scene();
        TwoServes once = Twins.scene();
        once.image();
        twice.image();
        CHECK.due("the same again", twice.image(), 4);
        TWINS.alike("two are as one", twice, once);
        x.undo();
        x.image();
        CHECK.due("of four", x.undo(), 4);
    }

    /** "STATE: there is none." */
    private static void undoNone() {
        CHECK.promise(32);
        TWINS.refused("no IMAGE", BoundaryTapesTest::withoutImage, STATE, TwoServes::undo);
        TwoServes x = withoutImage();
        CHECK.due("none", x.undo(), STATE);
        CHECK.due("none still", x.undo(), STATE);
        x.image();
        CHECK.due("there is one", x.undo(), 2);
        CHECK.due("and stays", x.undo(), 2);
    }

    private static TwoServes withoutImage() {
        TwoServes x = Courts.with(6, 1, 2, 3);
        x.server(0, 4, 5, 6);
        x.see(5, 6);
        x.book(1, 99, 99);
        Courts.feed(x, "in 1 f");
        return x;
    }

    /** "All is as THE IMAGE": what came after it, however much, is away, at the first undo() and at the next. */
    private static void undoAll() {
        CHECK.promise(32);
        TwoServes x = Twins.scene();
        CHECK.due("four", x.undo(), 4);
        TwoServes again = Twins.scene();
        again.undo();
        again.score(3, 0);
        again.stance(0);
        again.see(-1, 0);
        again.book(-1, 0, 0);
        for (int server = 0; server < 4; server++) {
            again.set(server, 0, 1);
            again.set(server, 1, 9);
            again.set(server, 2, 77);
        }
        for (int part = 0; part < 4; part++) {
            again.row(3, part, 9);
        }
        CHECK.due("four again", again.undo(), 4);
        TWINS.alike("as THE IMAGE", again, x);
    }

    /** An IMAGE of a new object: nobody, nothing SEEN, no BOOK, no COURT that holds. */
    private static void undoAtFirst() {
        CHECK.promise(32);
        TwoServes x = new TwoServes();
        CHECK.due("of nobody", x.image(), 0);
        x.server(6, 9, 9, 9);
        x.row(0, 0, 9);
        x.set(0, 2, 9999);
        x.score(4, 3);
        x.stance(2);
        x.see(9, 9);
        x.book(0, 99, 99);
        Courts.court(x, "in 9 f=9");
        CHECK.due("nobody", x.undo(), 0);
        TwoServes fresh = new TwoServes();
        fresh.image();
        CHECK.due("COURTS stay", x.count(1), 1);
        Courts.court(fresh, "win 9 f=9");
        fresh.undo();
        TWINS.alike("all else is as at first", x, fresh);
    }

    /** An IMAGE of an object in which all is full. */
    private static void undoFull() {
        CHECK.promise(32);
        TwoServes x = fullObject();
        x.image();
        x.see(-1, 0);
        x.book(-1, 0, 0);
        x.score(4, 0);
        CHECK.due("undo", x.undo(), 4);
        CHECK.due("SEEN is full", x.see(0, 0), -4);
        CHECK.due("the BOOK is full", x.book(0, 0, 0), -4);
        CHECK.due("so are the SERVERS", x.server(0, 0, 0, 0), -4);
        TwoServes imaged = fullObject();
        imaged.image();
        TWINS.alike("all is as it was", x, imaged);
    }

    private static TwoServes fullObject() {
        TwoServes x = new TwoServes();
        for (int n = 0; n < 4; n++) {
            x.server(6, 9 - n, 9, 9);
            for (int part = 0; part < 4; part++) {
                x.row(n, part, 9 - part);
            }
            x.set(n, 2, 9999);
        }
        for (int n = 0; n < 6; n++) {
            x.see(6, 9);
        }
        for (int n = 0; n < 10; n++) {
            x.book(n % 4, 99, 99);
        }
        x.score(3, 3);
        return x;
    }

    /** "An ACT (0 tosses, 1 strikes, 2 tells) of a SERVER with x. 0 ..: no such SERVER, act." */
    private static void actNumbers() {
        CHECK.promise(33);
        TwoServes x = Twins.scene();
        // SERVER 3 is TOLD with v 9: tosses (7 + 3) ^ 9, strikes that less 9 and 5 more
        CHECK.due("tosses", x.act(3, 0, 7), 10 ^ 9);
        CHECK.due("strikes", x.act(3, 1, 7), (10 ^ 9) - 9 + 5);
        CHECK.due("tells", x.act(3, 2, 7), ((10 ^ 9) - 9 + 5) * 2 + (4 ^ 9) - 9 + 5);
        for (int act : new int[] {-1, 3, LOW, HIGH}) {
            CHECK.due("act " + act, x.act(3, act, 7), 0);
        }
        for (int server : new int[] {-1, 4, LOW, HIGH}) {
            CHECK.due("SERVER " + server, x.act(server, 0, 7), 0);
        }
        CHECK.due("neither", x.act(4, 3, 7), 0);
        TwoServes acted = Twins.scene();
        acted.act(0, 2, 5);
        acted.act(3, 2, 99);
        TWINS.alike("an act leaves its TRACE alone", acted, Twins.scene());
    }

    /** "and no TRACE then": that of the act ahead of it is away, and all else stays. */
    private static void actNoTrace() {
        CHECK.promise(33);
        int[][] refused = {{-1, 0}, {4, 0}, {3, -1}, {3, 3}, {4, 3}, {LOW, LOW}, {HIGH, HIGH}};
        for (int[] r : refused) {
            TwoServes x = Twins.scene();
            CHECK.due("bodies ahead of it", x.count(5), 12);
            CHECK.due("act(" + r[0] + ", " + r[1] + ")", x.act(r[0], r[1], 7), 0);
            CHECK.due("no bodies", x.count(5), 0);
            CHECK.due("no TRACE", x.trace(0), NONE);
            x.act(3, 2, 7);
            TWINS.alike("all else stays", x, Twins.scene());
        }
    }

    private static void act(int kind, int number, int v, int act, int x, int due) {
        TwoServes a = new TwoServes();
        for (int n = 0; n < number; n++) {
            a.server(0, 0, 0, 0);
        }
        a.server(kind, v, 0, 0);
        CHECK.due("act " + act + " of KIND " + kind + ", number " + number + ", v " + v + ", with " + x,
            a.act(number, act, x), due);
    }

    /** "(wrapping)": the last that does not, the first that does, in each body that can. */
    private static void actWraps() {
        CHECK.promise(33);
        act(0, 3, 0, 0, HIGH - 3, HIGH);
        act(0, 3, 0, 0, HIGH - 2, LOW);
        act(0, 0, 9, 1, LOW + 9, LOW);
        act(0, 0, 9, 1, LOW + 8, HIGH);
        act(0, 0, 0, 2, 0x3FFFFFFF, HIGH - 1);
        act(0, 0, 0, 2, 0x40000000, LOW);
        act(0, 0, 0, 2, LOW, 0);
        act(1, 0, 0, 1, LOW, LOW + 6);
        act(1, 0, 0, 1, HIGH, HIGH - 6);
        act(1, 0, 9, 1, LOW + 8, HIGH - 6);
        act(2, 0, 0, 0, 715827882, HIGH - 1);
        act(2, 0, 0, 0, 715827883, LOW + 1);
        act(2, 3, 0, 0, 715827882, LOW + 1);
        act(2, 0, 0, 0, LOW, LOW);
        act(3, 0, 0, 2, 0x3FFFFFFF, HIGH);
        act(3, 0, 0, 2, 0x40000000, LOW + 1);
        act(3, 3, 0, 2, 0x3FFFFFFF - 3, LOW + 2);
        act(4, 0, 0, 0, HIGH, -HIGH);
        act(4, 0, 0, 0, LOW, LOW);
        act(4, 0, 0, 1, HIGH - 1, -HIGH ^ 6);
        act(4, 0, 0, 1, HIGH, LOW ^ 6);
        // 60: HIGH; 12, 11, 30: HIGH * 3 is HIGH - 2; 10: and 3 is LOW; 12: twice that is 0
        act(5, 3, 0, 2, LOW + 2, 0);
        // 60: LOW; 30: LOW * 3 is LOW; 10: LOW + 3; 12: twice that is 6
        act(5, 3, 0, 2, LOW + 3, 6);
        act(6, 0, 0, 1, HIGH - 2, HIGH);
        act(6, 0, 0, 1, HIGH - 1, LOW);
        act(6, 0, 9, 0, LOW, LOW + 9);
    }

    /** "THE TRACE's i-th body. NONE.": "the first 20 are kept", of which no KIND's act fills more than 12. */
    private static void traceNumbers() {
        CHECK.promise(34);
        TwoServes x = Twins.scene();
        int[] due = {40, 12, 70, 11, 71, 10, 10, 70, 11, 71, 10, 10};
        CHECK.due("all that ran", x.count(5), due.length);
        for (int i = 0; i < due.length; i++) {
            CHECK.due("trace(" + i + ")", x.trace(i), due[i]);
        }
        for (int i : new int[] {-1, 12, 19, 20, LOW, HIGH}) {
            TWINS.refused("trace(" + i + ")", NONE, y -> y.trace(i));
        }
        TWINS.asked("trace(11)", y -> y.trace(11));
        x.act(0, 0, 1);
        CHECK.due("the latest act alone", x.count(5), 1);
        CHECK.due("its body", x.trace(0), 10);
        CHECK.due("and no more", x.trace(1), NONE);
    }

    /** "A SERVER taken for one of KIND k (0 .. 6) ..: BAD: k; NOTHING: no such SERVER; CAST." */
    private static void takenNumbers() {
        CHECK.promise(35);
        for (int k : new int[] {-1, 7, LOW, HIGH}) {
            TWINS.refused("k " + k, BAD, x -> x.taken(3, k));
            TWINS.refused("k " + k + ", and nobody", BAD, x -> x.taken(4, k));
        }
        for (int server : new int[] {-1, 4, LOW, HIGH}) {
            TWINS.refused("SERVER " + server, NOTHING, x -> x.taken(server, 0));
            TWINS.refused("SERVER " + server + ", whatever k", NOTHING, x -> x.taken(server, 6));
        }
        CHECK.due("the next SERVER", Courts.with(6, 0, 0, 0).taken(1, 6), NOTHING);
        TWINS.asked("taken(3, 6)", x -> x.taken(3, 6));
        TWINS.refused("READ is no TOLD", CAST, x -> x.taken(1, 6));
    }

    /** "one of KIND k, or one under that": 1 2 3 are under 0, 4 under 1, 5 under 2, 6 under 3. */
    private static void takenCast() {
        CHECK.promise(35);
        String[] under = {"0", "01", "02", "03", "014", "025", "036"};
        for (int kind = 0; kind <= 6; kind++) {
            TwoServes x = Courts.with(kind, 0, 0, 0);
            for (int k = 0; k <= 6; k++) {
                CHECK.due("KIND " + kind + " for " + k, x.taken(0, k), under[kind].indexOf('0' + k) >= 0 ? kind : CAST);
            }
        }
    }

    /** "How many: 0 .. 5": "BAD." */
    private static void countNumbers() {
        CHECK.promise(36);
        for (int what : new int[] {-1, 6, LOW, HIGH}) {
            TWINS.refused("count(" + what + ")", BAD, x -> x.count(what));
        }
        int[] due = {4, 2, 3, 2, 6, 12};
        for (int what = 0; what <= 5; what++) {
            int asked = what;
            CHECK.due("count(" + what + ")", Twins.scene().count(what), due[what]);
            TWINS.asked("count(" + what + ")", x -> x.count(asked));
        }
        TwoServes full = fullObject();
        CHECK.due("SEEN, full", full.count(2), 6);
        CHECK.due("the BOOK, full", full.count(3), 10);
        CHECK.due("SERVERS, full", full.count(0), 4);
        full.see(0, 0);
        full.book(0, 0, 0);
        full.server(0, 0, 0, 0);
        CHECK.due("SEEN, refused", full.count(2), 6);
        CHECK.due("the BOOK, refused", full.count(3), 10);
        CHECK.due("SERVERS, refused", full.count(0), 4);
    }

    /** "A TAPE becomes a row of n (0 .. 60) of a sort, all 0": "NONE: tape; BAD: sort, n above 60; SIZE." */
    private static void tapeNumbers() {
        CHECK.promise(37);
        for (int tape : new int[] {-1, 6, LOW, HIGH}) {
            TWINS.refused("TAPE " + tape, NONE, x -> x.tape(tape, 0, 1));
            TWINS.refused("TAPE " + tape + ", nothing", NONE, x -> x.tape(tape, -1, 1));
        }
        for (int sort : new int[] {-2, 5, LOW, HIGH}) {
            TWINS.refused("sort " + sort, BAD, x -> x.tape(0, sort, 1));
        }
        for (int sort = 0; sort <= 4; sort++) {
            int s = sort;
            TWINS.refused("61 of sort " + sort, BAD, x -> x.tape(s, s, 61));
            TWINS.refused("many of sort " + sort, BAD, x -> x.tape(s, s, HIGH));
            TWINS.refused("-1 of sort " + sort, SIZE, x -> x.tape(s, s, -1));
            TWINS.refused("far below 0 of sort " + sort, SIZE, x -> x.tape(s, s, LOW));
            TwoServes x = new TwoServes();
            CHECK.due("60", x.tape(5, sort, 60), 1);
            CHECK.due("item 59", x.read(5, 59), 0);
            CHECK.due("item 60", x.read(5, 60), NO);
            CHECK.due("0", x.tape(5, sort, 0), 1);
            CHECK.due("item 0", x.read(5, 0), NO);
            CHECK.due("a row of 0 is not nothing", x.item(5, 0, 1), PLACE);
        }
    }

    /** NONE, then BAD, then SIZE; with sort -1 "n does not matter". */
    private static void tapeFirstWord() {
        CHECK.promise(37);
        TwoServes x = new TwoServes();
        CHECK.due("TAPE, and sort", x.tape(6, 5, 1), NONE);
        CHECK.due("TAPE, and n", x.tape(-1, 0, 61), NONE);
        CHECK.due("TAPE, and SIZE", x.tape(6, 0, -1), NONE);
        CHECK.due("sort, and SIZE", x.tape(0, 5, -1), BAD);
        CHECK.due("sort, and SIZE", x.tape(0, -2, -1), BAD);
        CHECK.due("sort, and n", x.tape(0, 5, 61), BAD);
        for (int n : new int[] {-1, 0, 60, 61, LOW, HIGH}) {
            x.tape(0, 2, 3);
            CHECK.due("nothing, with " + n, x.tape(0, -1, n), 1);
            CHECK.due("nothing is there", x.item(0, 0, 1), NOTHING);
            CHECK.due("nothing of nothing", x.tape(0, -1, n), 1);
        }
        CHECK.due("TAPE, and nothing", x.tape(6, -1, 0), NONE);
    }

    /** "all 0": a row that is told anew, shorter, longer, of another sort, and of none between. */
    private static void tapeAnew() {
        CHECK.promise(37);
        TwoServes x = new TwoServes();
        int[][] sortLength = {{3, 60}, {3, 2}, {3, 60}, {0, 60}, {4, 60}, {-1, 60}, {2, 60}};
        for (int[] s : sortLength) {
            x.tape(0, s[0], s[1]);
            for (int i = 0; i < 60; i += 59) {
                boolean there = s[0] != -1 && i < s[1];
                CHECK.due("item " + i + " of sort " + s[0] + ", " + s[1] + " long", x.read(0, i), there ? 0 : NO);
                x.item(0, i, -1);
            }
        }
        CHECK.due("other TAPES stay", x.read(1, 0), NO);
    }

    /** "Item i of a TAPE becomes v ..: 1. NONE; NOTHING; PLACE." */
    private static void itemNumbers() {
        CHECK.promise(38);
        for (int tape : new int[] {-1, 6, LOW, HIGH}) {
            TWINS.refused("TAPE " + tape, NONE, x -> x.item(tape, 0, 1));
            TWINS.refused("TAPE " + tape + ", and the place", NONE, x -> x.item(tape, -1, 1));
        }
        for (int i : new int[] {-1, 0, 60, LOW, HIGH}) {
            TWINS.refused("place " + i + " of nothing", NOTHING, x -> x.item(5, i, 1));
        }
        for (int tape = 0; tape < 5; tape++) {
            int t = tape;
            CHECK.due("the first", Twins.scene().item(tape, 0, 1), 1);
            CHECK.due("the last", Twins.scene().item(tape, 4 - tape, 1), 1);
            for (int i : new int[] {-1, 5 - tape, LOW, HIGH}) {
                TWINS.refused("place " + i + " of TAPE " + tape, PLACE, x -> x.item(t, i, 1));
            }
        }
        TwoServes x = new TwoServes();
        x.tape(0, 0, 60);
        CHECK.due("place 59 of 60", x.item(0, 59, 9), 1);
        CHECK.due("place 60 of 60", x.item(0, 60, 9), PLACE);
        CHECK.due("the one ahead of it stays", x.read(0, 58), 0);
    }

    /** "(its lowest bits, as many as an item has; booleans: whether v is not 0)" */
    private static void itemLowestBits() {
        CHECK.promise(38);
        TwoServes x = new TwoServes();
        long[][] sortTold = {{0, 127, 127}, {0, 128, -128}, {0, -128, -128}, {0, -129, 127}, {0, 255, -1}, {0, 256, 0},
            {1, 32767, 32767}, {1, 32768, -32768}, {1, -32768, -32768}, {1, -32769, 32767}, {1, 65536, 0},
            {2, HIGH, HIGH}, {2, 1L + HIGH, LOW}, {2, LOW, LOW}, {2, LOW - 1L, HIGH}, {2, 1L << 32, 0},
            {3, Long.MAX_VALUE, Long.MAX_VALUE}, {3, Long.MIN_VALUE + 1, Long.MIN_VALUE + 1}, {3, NO, NO},
            {4, 0, 0}, {4, 1, 1}, {4, -1, 1}, {4, 2, 1}, {4, 256, 1}, {4, 1L << 32, 1}, {4, NO, 1}};
        for (long[] t : sortTold) {
            x.tape((int) t[0], (int) t[0], 2);
            CHECK.due("item of sort " + t[0] + " becomes " + t[1], x.item((int) t[0], 1, t[1]), 1);
            CHECK.due("its lowest bits", x.read((int) t[0], 1), t[2]);
            CHECK.due("not the one beside it", x.read((int) t[0], 0), 0);
        }
        x.item(4, 1, 0);
        CHECK.due("a boolean is 0 again", x.read(4, 1), 0);
    }

    /** "Item i of a TAPE. NO: no such TAPE, nothing there, no such place." */
    private static void readNumbers() {
        CHECK.promise(39);
        for (int tape : new int[] {-1, 6, LOW, HIGH}) {
            TWINS.refused("TAPE " + tape, NO, x -> x.read(tape, 0));
        }
        for (int i : new int[] {-1, 0, HIGH}) {
            TWINS.refused("place " + i + " of nothing", NO, x -> x.read(5, i));
        }
        for (int tape = 0; tape < 5; tape++) {
            int t = tape;
            for (int i : new int[] {-1, 5 - tape, 60, LOW, HIGH}) {
                TWINS.refused("place " + i + " of TAPE " + tape, NO, x -> x.read(t, i));
            }
            TWINS.asked("read(" + tape + ", 0)", x -> x.read(t, 0));
        }
        CHECK.due("the last there may be", Twins.scene().read(0, 4), 0);
    }

    /** "NONE: tapes": either. */
    private static void shiftNumbers() {
        CHECK.promise(40);
        for (int tape : new int[] {-1, 6, LOW, HIGH}) {
            TWINS.refused("TAPE " + tape, NONE, x -> x.shift(tape, 0, 1, 0, 1));
            TWINS.refused("the other " + tape, NONE, x -> x.shift(1, 0, tape, 0, 1));
        }
        TWINS.refused("from nothing", NOTHING, x -> x.shift(5, 0, 1, 0, 0));
        TWINS.refused("to nothing", NOTHING, x -> x.shift(1, 0, 5, 0, 0));
        TWINS.refused("nothing to nothing", NOTHING, x -> x.shift(5, 0, 5, 0, 0));
        for (int one = 0; one < 5; one++) {
            for (int other = 0; other < 5; other++) {
                int a = one;
                int b = other;
                if (one != other) {
                    TWINS.refused("sort " + one + " to " + other, CAST, x -> x.shift(a, 0, b, 0, 1));
                }
            }
        }
    }

    /** NONE, then NOTHING, then CAST, then PLACE. */
    private static void shiftFirstWord() {
        CHECK.promise(40);
        TwoServes x = Twins.scene();
        CHECK.due("TAPE, and nothing", x.shift(6, 0, 5, 0, 1), NONE);
        CHECK.due("nothing, and TAPE", x.shift(5, 0, 6, 0, 1), NONE);
        CHECK.due("TAPE, and PLACE", x.shift(-1, -1, 0, 0, 1), NONE);
        CHECK.due("nothing, and PLACE", x.shift(5, -1, 0, 0, 1), NOTHING);
        CHECK.due("to nothing, and n", x.shift(0, 0, 5, 0, -1), NOTHING);
        CHECK.due("CAST, and PLACE", x.shift(0, 9, 1, 0, 1), CAST);
        CHECK.due("CAST, and n", x.shift(0, 0, 1, 0, -1), CAST);
    }

    /** TAPE 0 a row of 5, TAPE 1 one of 3, of this sort. */
    private static Supplier<TwoServes> fiveAndThree(int sort) {
        return () -> {
            TwoServes x = Courts.with(0, 0, 0, 0);
            x.tape(0, sort, 5);
            x.tape(1, sort, 3);
            for (int i = 0; i < 5; i++) {
                x.item(0, i, sort == 4 ? i % 2 : i + 1);
            }
            return x;
        };
    }

    /** "PLACE: n, i or j is below 0, or beyond either's end." */
    private static void shiftEnds() {
        CHECK.promise(40);
        int[][] good = {{0, 0, 3}, {2, 0, 3}, {4, 2, 1}, {0, 2, 1}, {5, 3, 0}, {0, 0, 0}, {5, 0, 0}, {0, 3, 0}};
        int[][] wrong = {{3, 0, 3}, {0, 1, 3}, {0, 0, 4}, {5, 0, 1}, {0, 3, 1}, {6, 0, 0}, {0, 4, 0}, {-1, 0, 0},
            {0, -1, 0}, {0, 0, -1}, {-1, 0, 1}, {0, -1, 1}, {1, 1, -1}, {6, 0, -1}, {0, 4, -1}, {LOW, 0, 0},
            {0, LOW, 0}, {0, 0, LOW}, {HIGH, 0, 0}, {0, HIGH, 0}, {0, 0, HIGH}, {1, 0, HIGH}, {0, 1, HIGH},
            {HIGH, HIGH, HIGH}, {LOW, LOW, LOW}, {HIGH, 0, 1}, {0, HIGH, 1}, {LOW, 0, HIGH}, {0, LOW, HIGH}};
        for (int sort = 0; sort <= 4; sort++) {
            Supplier<TwoServes> made = fiveAndThree(sort);
            for (int[] g : good) {
                CHECK.due("shift " + g[0] + ", " + g[1] + ", " + g[2], made.get().shift(0, g[0], 1, g[1], g[2]), g[2]);
            }
            for (int[] w : wrong) {
                TWINS.refused("shift " + w[0] + ", " + w[1] + ", " + w[2], made, PLACE,
                    x -> x.shift(0, w[0], 1, w[1], w[2]));
            }
            TWINS.refused("none at the ends", made, 0, x -> x.shift(0, 5, 1, 3, 0));
        }
    }

    /** "n items .. come to another one (or the same) .., as they all were before": on, back and onto themselves. */
    private static void shiftAsBefore() {
        CHECK.promise(40);
        int[][] moves = {{0, 1, 4}, {1, 0, 4}, {0, 0, 5}, {0, 4, 1}, {4, 0, 1}, {0, 2, 3}, {2, 0, 3}, {5, 5, 0}};
        for (int[] m : moves) {
            TwoServes x = fiveAndThree(3).get();
            CHECK.due("shift in the same", x.shift(0, m[0], 0, m[1], m[2]), m[2]);
            for (int k = 0; k < 5; k++) {
                boolean moved = k >= m[1] && k < m[1] + m[2];
                CHECK.due("item " + k + " after " + m[0] + " to " + m[1], x.read(0, k), (moved ? k - m[1] + m[0] : k) + 1);
            }
        }
        TwoServes x = fiveAndThree(2).get();
        x.item(1, 2, 9);
        CHECK.due("to another", x.shift(0, 3, 1, 0, 2), 2);
        long[] due = {4, 5, 9, NO};
        for (int i = 0; i < due.length; i++) {
            CHECK.due("item " + i, x.read(1, i), due[i]);
        }
        CHECK.due("it stays where it came from", x.read(0, 3), 4);
    }

    /** "used for at most 512 calls": runs of 512, of which the last is answered as told. */
    private static void callsAll() {
        CHECK.promise(1);
        TwoServes comers = new TwoServes();
        comers.image();
        for (int call = 2; call < 512; call += 2) {
            CHECK.due("call " + call + ", a SERVER", comers.server(6, 9, 9, 9), 0);
            CHECK.due("call " + (call + 1) + ", nobody again", comers.undo(), 0);
        }
        CHECK.due("call 512", comers.server(0, 0, 0, 0), 0);
        TwoServes acts = Courts.with(6, 0, 0, 0);
        for (int call = 2; call <= 511; call++) {
            CHECK.due("call " + call + ", an act", acts.act(0, 2, call), (call + 2) * 2 + 3);
        }
        CHECK.due("call 512", acts.count(5), 12);
        TwoServes games = Courts.with(0, 0, 5, 5);
        for (int call = 2; call < 512; call += 5) {
            for (int won = 0; won < 4; won++) {
                CHECK.due("a POINT", games.play(0, 0, 0), 1);
            }
            games.score(0, 0);
        }
        CHECK.due("call 512", games.of(0, 4), 408);
        TwoServes texts = new TwoServes();
        for (int call = 1; call <= 510; call += 2) {
            texts.feed('i');
            CHECK.due("a text that ends too early", texts.court(), -11);
        }
        CHECK.due("no COURT came", texts.count(1), 0);
    }
}
