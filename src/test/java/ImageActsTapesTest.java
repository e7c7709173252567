/** Promises 30 to 40: judging, the image, acts, tapes. */
public final class ImageActsTapesTest {
    private static final Check CHECK = new Check("judging, the image, acts, tapes");
    private static final int LOW = Integer.MIN_VALUE, HIGH = Integer.MAX_VALUE;
    private static final int NOTHING = -11, CAST = -12, PLACE = -13, SIZE = -14;

    private ImageActsTapesTest() {
    }

    public static void main(String[] args) {
        judge();
        image();
        undoAll();
        undoServers();
        undoBook();
        undoLeaves();
        act();
        actWraps();
        trace();
        taken();
        count();
        tape();
        item();
        itemSorts();
        read();
        shift();
        shiftPlaces();
        CHECK.end();
    }

    private static void judge() {
        CHECK.promise(30);
        TwoServes x = new TwoServes();
        CHECK.due("nobody to look at", x.judge(0, -1), -5);
        x.tape(0, 2, 3);
        CHECK.due("ints, and nobody", x.judge(0, 0), CAST);
        for (int tape : new int[] {-1, 6, LOW, HIGH}) {
            CHECK.due("tape " + tape, x.judge(tape, 0), -1);
        }
        for (int n = 0; n < 3; n++) {
            x.server(0, 0, 0, 0);
        }
        x.set(1, 2, 7);
        x.set(2, 2, 9999);
        for (int sort : new int[] {0, 2, 3, 4}) {
            x.tape(0, sort, 3);
            CHECK.due("sort " + sort, x.judge(0, 0), CAST);
        }
        CHECK.due("holds nothing", x.judge(1, 0), 100);
        x.tape(0, 1, 6);
        CHECK.due("1 is otherwise", x.judge(0, 0), 1);
        x.item(0, 3, 7);
        CHECK.due("0 is otherwise from 3 on", x.judge(0, 3), 0);
        CHECK.due("2 is otherwise from 2 on", x.judge(0, 2), 2);
        x.item(0, 4, 9999);
        CHECK.due("none is", x.judge(0, 2), -5);
        CHECK.due("the place is below 0", x.judge(0, -1), 100);
        CHECK.due("far below 0", x.judge(0, LOW), 100);
        CHECK.due("behind the end", x.judge(0, 6), 100);
        CHECK.due("far behind the end", x.judge(0, HIGH), 100);
        CHECK.due("the last item alone", x.judge(0, 5), 101);
        x.item(0, 5, 7);
        x.item(0, 4, 0);
        CHECK.due("the last two", x.judge(0, 4), 102);
        x.item(0, 4, 1);
        CHECK.due("otherwise ahead of the end", x.judge(0, 4), 0);
    }

    private static void image() {
        CHECK.promise(31);
        TwoServes x = new TwoServes();
        CHECK.due("nobody", x.image(), 0);
        x.server(0, 0, 1, 1);
        x.server(0, 0, 1, 1);
        CHECK.due("two", x.image(), 2);
        x.set(0, 0, 5);
        CHECK.due("a newer one", x.image(), 2);
        x.set(0, 0, 6);
        x.undo();
        CHECK.due("the newer one stands", x.of(0, 2), 5);
    }

    private static void undoAll() {
        CHECK.promise(32);
        TwoServes x = new TwoServes();
        CHECK.due("no IMAGE", x.undo(), -3);
        x.server(6, 3, 8, 2);
        x.row(0, 0, 4);
        x.set(0, 2, 12);
        x.score(2, 1);
        x.stance(2);
        x.see(4, 2);
        x.book(0, 0, 99);
        Courts.court(x, "win 10 f=4");
        CHECK.due("image", x.image(), 1);
        for (int round = 0; round < 2; round++) {
            x.set(0, 0, 7);
            x.set(0, 1, 1);
            x.set(0, 2, 1);
            x.row(0, 0, 9);
            x.score(0, 3);
            x.stance(0);
            x.see(-1, 0);
            x.see(9, 9);
            x.see(9, 8);
            x.book(-1, 0, 0);
            x.book(0, 1, 1);
            x.book(0, 1, 1);
            Courts.court(x, "win 20 f=4");
            CHECK.due("undo", x.undo(), 1);
            CHECK.due("HARD", x.of(0, 2), 8);
            CHECK.due("SOFT", x.of(0, 3), 2);
            CHECK.due("SERVED", x.of(0, 4), 12);
            CHECK.due("the ROW", x.of(0, 5), 4);
            CHECK.due("WON", x.told(0), 2);
            CHECK.due("LOST", x.told(1), 1);
            CHECK.due("the STANCE", x.told(2), 2);
            CHECK.due("SEEN", x.count(2), 1);
            CHECK.due("WHO by the row SEEN", x.who(), 1);
            CHECK.due("the BOOK", x.count(3), 1);
            CHECK.due("LOOKED at", x.looked(), 0);
            CHECK.due("the COURT that held", x.of(0, 24), 70);
            CHECK.due("all COURTS are there", x.count(1), 2 + round);
        }
    }

    private static void undoServers() {
        CHECK.promise(32);
        TwoServes x = Courts.with(0, 1, 2, 3);
        x.image();
        x.server(6, 4, 5, 6);
        x.row(1, 2, 9);
        x.set(1, 2, 2);
        CHECK.due("one again", x.undo(), 1);
        CHECK.due("the second is away", x.of(1, 0), -1);
        CHECK.due("another second", x.server(6, 7, 8, 9), 1);
        CHECK.due("its SERVED is new", x.of(1, 4), 0);
        CHECK.due("its ROW is new", x.row(1, 2, 0), 0);
        CHECK.due("its v is its own", x.of(1, 1), 7);
        x.image();
        x.undo();
        CHECK.due("it stays in a newer IMAGE", x.of(1, 2), 8);
        TwoServes none = new TwoServes();
        none.image();
        none.server(0, 0, 0, 0);
        CHECK.due("nobody again", none.undo(), 0);
        CHECK.due("nobody", none.count(0), 0);
        Courts.court(none, "in 9 f=9");
        none.undo();
        none.server(0, 0, 0, 0);
        CHECK.due("no COURT holds, as then", none.of(0, 19), 41);
        CHECK.due("but one is there", none.count(1), 1);
        CHECK.due("and the next is the second", Courts.court(none, "in 8 f=9"), 1);
        CHECK.due("which holds", none.of(0, 19), 49);
    }

    private static void undoBook() {
        CHECK.promise(32);
        TwoServes x = Courts.with(0, 0, 8, 2);
        x.server(2, 0, 8, 2);
        // 8 is in below 47 and wins below 80, 2 is in below 83 and wins below 50
        x.book(0, 46, 79);
        x.book(1, 82, 49);
        x.book(0, 46, 80);
        x.image();
        x.book(-1, 0, 0);
        x.book(1, 99, 84);
        x.book(0, 99, 84);
        CHECK.due("another BOOK", x.looked(), 0);
        x.undo();
        CHECK.due("the BOOK as it was", x.looked(), 2);
        x.set(0, 0, 2);
        CHECK.due("its first row is of SERVER 0, and e 79", x.looked(), 0);
        x.set(0, 0, 8);
        x.set(1, 1, 9);
        CHECK.due("its second row is of SERVER 1, and d 82", x.looked(), 1);
    }

    private static void undoLeaves() {
        CHECK.promise(32);
        TwoServes x = Courts.with(0, 0, 0, 0);
        Courts.feed(x, "in 9 f=");
        x.image();
        x.feed('9');
        x.act(0, 2, 5);
        x.tape(3, 2, 4);
        x.item(3, 1, 77);
        x.undo();
        CHECK.due("THE TEXT is not in it", x.count(4), 8);
        CHECK.due("THE TRACE is not in it", x.count(5), 3);
        CHECK.due("TAPES are not in it", x.read(3, 1), 77);
    }

    /** Each KIND's acts, worked from the BODIES by hand, as SERVER 2 with v 5 and x 7. */
    private static void act() {
        CHECK.promise(33);
        int[][] due = {
            {9, 4, 8},
            {9, 4 ^ 6, (4 ^ 6) * 2},
            {23, 18, 36},
            {9, 4, 8 - 2},
            {-9, (-10 - 5) ^ 6, ((-10 - 5) ^ 6) * 2},
            {23, 18, 24},
            {9 ^ 5, 11, 22 + 5}};
        for (int kind = 0; kind < due.length; kind++) {
            TwoServes x = thirdOf(kind);
            for (int act = 0; act < 3; act++) {
                CHECK.due("act " + act + " of KIND " + kind, x.act(2, act, 7), due[kind][act]);
            }
        }
        TwoServes x = thirdOf(0);
        for (int server : new int[] {-1, 3, LOW, HIGH}) {
            x.act(0, 2, 1);
            CHECK.due("nobody", x.act(server, 0, 1), 0);
            CHECK.due("no TRACE then", x.count(5), 0);
        }
        for (int act : new int[] {-1, 3, LOW, HIGH}) {
            x.act(0, 2, 1);
            CHECK.due("no act", x.act(2, act, 1), 0);
            CHECK.due("no TRACE then", x.count(5), 0);
            CHECK.due("not a body", x.trace(0), -1);
        }
    }

    private static TwoServes thirdOf(int kind) {
        TwoServes x = new TwoServes();
        x.server(0, 0, 0, 0);
        x.server(0, 0, 0, 0);
        x.server(kind, 5, 0, 0);
        return x;
    }

    private static void actWraps() {
        CHECK.promise(33);
        CHECK.due("x + i", thirdOf(0).act(2, 0, HIGH), LOW + 1);
        CHECK.due("times 3", thirdOf(2).act(2, 0, 1 << 30), (1 << 30) * 3 + 2);
        CHECK.due("times 2", thirdOf(0).act(2, 2, 1 << 30), (LOW - 6));
        CHECK.due("less", thirdOf(2).act(2, 0, LOW), LOW * 3 + 2);
        CHECK.due("below", thirdOf(0).act(2, 1, LOW), LOW - 3);
        CHECK.due("turned", thirdOf(4).act(2, 0, LOW - 2), LOW);
    }

    private static void trace() {
        CHECK.promise(34);
        int[][] tells = {{12, 11, 10}, {12, 20, 11, 10}, {12, 11, 30, 10}, {40, 12, 11, 10, 11, 10},
            {12, 51, 20, 11, 50, 10}, {60, 12, 11, 30, 10},
            {40, 12, 70, 11, 71, 10, 10, 70, 11, 71, 10, 10}};
        int[][] strikes = {{11, 10}, {20, 11, 10}, {11, 30, 10}, {11, 10}, {51, 20, 11, 50, 10}, {11, 30, 10},
            {70, 11, 71, 10, 10}};
        int[][] tosses = {{10}, {10}, {30, 10}, {10}, {50, 10}, {30, 10}, {71, 10}};
        for (int kind = 0; kind < 7; kind++) {
            TwoServes x = thirdOf(kind);
            CHECK.due("no act so far", x.trace(0), -1);
            ran(x, 2, kind, tells[kind]);
            ran(x, 1, kind, strikes[kind]);
            ran(x, 0, kind, tosses[kind]);
            for (int i : new int[] {-1, LOW, HIGH, 20}) {
                CHECK.due("trace(" + i + ")", x.trace(i), -1);
            }
        }
    }

    private static void ran(TwoServes x, int act, int kind, int[] due) {
        x.act(2, act, 7);
        CHECK.due("bodies of act " + act + " of KIND " + kind, x.count(5), due.length);
        for (int i = 0; i < due.length; i++) {
            CHECK.due("trace " + i + " of act " + act + " of KIND " + kind, x.trace(i), due[i]);
        }
        CHECK.due("behind it", x.trace(due.length), -1);
    }

    private static void taken() {
        CHECK.promise(35);
        int[] above = {-1, 0, 0, 0, 1, 2, 3};
        for (int kind = 0; kind < 7; kind++) {
            TwoServes x = Courts.with(kind, 0, 0, 0);
            for (int k = 0; k < 7; k++) {
                boolean under = k == kind || k == above[kind] || k == 0;
                CHECK.due("KIND " + kind + " taken for " + k, x.taken(0, k), under ? kind : CAST);
            }
            for (int k : new int[] {-1, 7, LOW, HIGH}) {
                CHECK.due("taken for " + k, x.taken(0, k), -2);
                CHECK.due("BAD ahead of NOTHING", x.taken(1, k), -2);
            }
            for (int server : new int[] {-1, 1, LOW, HIGH}) {
                CHECK.due("nobody taken", x.taken(server, 0), NOTHING);
            }
        }
    }

    private static void count() {
        CHECK.promise(36);
        TwoServes x = new TwoServes();
        x.server(0, 0, 0, 0);
        x.server(0, 0, 0, 0);
        for (int n = 0; n < 3; n++) {
            Courts.court(x, "in 1 f=1");
        }
        for (int n = 0; n < 4; n++) {
            x.see(0, 0);
        }
        for (int n = 0; n < 5; n++) {
            x.book(1, 0, 0);
        }
        Courts.feed(x, "in 1 f");
        x.act(0, 1, 0);
        int[] due = {2, 3, 4, 5, 6, 2};
        for (int what = 0; what < due.length; what++) {
            CHECK.due("count(" + what + ")", x.count(what), due[what]);
        }
        for (int what : new int[] {-1, 6, LOW, HIGH}) {
            CHECK.due("count(" + what + ")", x.count(what), -2);
        }
    }

    private static void tape() {
        CHECK.promise(37);
        TwoServes x = new TwoServes();
        for (int tape : new int[] {-1, 6, LOW, HIGH}) {
            CHECK.due("tape " + tape, x.tape(tape, 0, 1), -1);
            CHECK.due("NONE ahead of BAD", x.tape(tape, 9, -1), -1);
        }
        for (int sort : new int[] {-2, 5, LOW, HIGH}) {
            CHECK.due("sort " + sort, x.tape(0, sort, 1), -2);
            CHECK.due("BAD ahead of SIZE", x.tape(0, sort, -1), -2);
        }
        for (int sort = 0; sort < 5; sort++) {
            CHECK.due("61", x.tape(sort, sort, 61), -2);
            CHECK.due("far too many", x.tape(sort, sort, HIGH), -2);
            CHECK.due("-1", x.tape(sort, sort, -1), SIZE);
            CHECK.due("far below 0", x.tape(sort, sort, LOW), SIZE);
            CHECK.due("nothing yet", x.item(sort, 0, 1), NOTHING);
            CHECK.due("60", x.tape(sort, sort, 60), 1);
            CHECK.due("the last is 0", x.read(sort, 59), 0);
            x.item(sort, 59, 1);
            x.item(sort, 0, 1);
            CHECK.due("anew", x.tape(sort, sort, 60), 1);
            CHECK.due("all 0, the first", x.read(sort, 0), 0);
            CHECK.due("all 0, the last", x.read(sort, 59), 0);
            CHECK.due("none", x.tape(sort, sort, 0), 1);
            CHECK.due("no place in it", x.item(sort, 0, 1), PLACE);
        }
        for (int n : new int[] {0, 61, LOW, HIGH}) {
            x.tape(5, 3, 2);
            CHECK.due("nothing, n " + n, x.tape(5, -1, n), 1);
            CHECK.due("nothing", x.item(5, 0, 1), NOTHING);
        }
        x.tape(0, 2, 3);
        x.item(0, 1, 5);
        x.tape(0, 2, 61);
        x.tape(0, 2, -1);
        x.tape(0, 7, 1);
        CHECK.due("refusals change nothing", x.read(0, 1), 5);
    }

    private static void item() {
        CHECK.promise(38);
        TwoServes x = new TwoServes();
        for (int tape : new int[] {-1, 6, LOW, HIGH}) {
            CHECK.due("tape " + tape, x.item(tape, 0, 1), -1);
        }
        CHECK.due("NOTHING ahead of PLACE", x.item(0, -1, 1), NOTHING);
        x.tape(0, 2, 4);
        for (int i : new int[] {-1, 4, LOW, HIGH}) {
            CHECK.due("place " + i, x.item(0, i, 1), PLACE);
        }
        for (int i = 0; i < 4; i++) {
            CHECK.due("place " + i, x.item(0, i, i + 10), 1);
        }
        for (int i = 0; i < 4; i++) {
            CHECK.due("read " + i, x.read(0, i), i + 10);
        }
    }

    private static void itemSorts() {
        CHECK.promise(38);
        long[] told = {0, 1, -1, 127, 128, 255, 256, 32767, 32768, 65536, 1L << 31, 1L << 32, (1L << 40) + 200,
            Long.MIN_VALUE, Long.MAX_VALUE};
        TwoServes x = new TwoServes();
        for (int sort = 0; sort < 5; sort++) {
            x.tape(sort, sort, 1);
            for (long v : told) {
                long[] due = {(byte) v, (short) v, (int) v, v, v != 0 ? 1 : 0};
                CHECK.due("item " + v, x.item(sort, 0, v), 1);
                CHECK.due("sort " + sort + " of " + v, x.read(sort, 0), due[sort]);
            }
        }
    }

    private static void read() {
        CHECK.promise(39);
        TwoServes x = new TwoServes();
        x.tape(2, 3, 2);
        x.item(2, 1, -9);
        CHECK.due("0", x.read(2, 0), 0);
        CHECK.due("-9", x.read(2, 1), -9);
        for (int i : new int[] {-1, 2, LOW, HIGH}) {
            CHECK.due("place " + i, x.read(2, i), TwoServes.NO);
        }
        for (int tape : new int[] {-1, 6, LOW, HIGH}) {
            CHECK.due("tape " + tape, x.read(tape, 0), TwoServes.NO);
        }
        CHECK.due("nothing there", x.read(3, 0), TwoServes.NO);
        x.tape(2, -1, 2);
        CHECK.due("nothing there again", x.read(2, 0), TwoServes.NO);
    }

    private static TwoServes numbered(int sort) {
        TwoServes x = new TwoServes();
        x.tape(0, sort, 6);
        x.tape(1, sort, 4);
        for (int i = 0; i < 6; i++) {
            x.item(0, i, i + 1);
        }
        return x;
    }

    private static void shift() {
        CHECK.promise(40);
        for (int sort = 0; sort < 4; sort++) {
            TwoServes x = numbered(sort);
            CHECK.due("to another", x.shift(0, 2, 1, 1, 3), 3);
            items(x, 1, 0, 3, 4, 5);
            items(x, 0, 1, 2, 3, 4, 5, 6);
            CHECK.due("on in the same", x.shift(0, 0, 0, 2, 4), 4);
            items(x, 0, 1, 2, 1, 2, 3, 4);
            CHECK.due("back in the same", x.shift(0, 1, 0, 0, 5), 5);
            items(x, 0, 2, 1, 2, 3, 4, 4);
            CHECK.due("onto itself", x.shift(0, 0, 0, 0, 6), 6);
            items(x, 0, 2, 1, 2, 3, 4, 4);
        }
        TwoServes x = numbered(4);
        CHECK.due("booleans", x.shift(0, 0, 1, 2, 2), 2);
        items(x, 1, 0, 0, 1, 1);
    }

    private static void items(TwoServes x, int tape, int... due) {
        for (int i = 0; i < due.length; i++) {
            CHECK.due("item " + i + " of " + tape, x.read(tape, i), due[i]);
        }
    }

    private static void shiftPlaces() {
        CHECK.promise(40);
        TwoServes x = numbered(2);
        x.tape(2, 3, 6);
        for (int tape : new int[] {-1, 6, LOW, HIGH}) {
            CHECK.due("tape " + tape, x.shift(tape, 0, 5, 0, 1), -1);
            CHECK.due("other " + tape, x.shift(5, 0, tape, 0, 1), -1);
        }
        CHECK.due("nothing in this", x.shift(5, 0, 0, 0, 1), NOTHING);
        CHECK.due("nothing in that, ahead of PLACE", x.shift(0, -1, 5, 0, 1), NOTHING);
        CHECK.due("unlike, ahead of PLACE", x.shift(0, -1, 2, 0, 1), CAST);
        int[][] wrong = {{-1, 0, 1}, {0, -1, 1}, {0, 0, -1}, {4, 0, 3}, {0, 2, 3}, {7, 0, 0}, {0, 5, 0}, {0, 0, 5},
            {LOW, 0, 1}, {0, LOW, 1}, {0, 0, LOW}, {HIGH, 0, 1}, {0, HIGH, 1}, {0, 0, HIGH}, {HIGH, HIGH, HIGH},
            {1, 0, HIGH}, {0, 1, HIGH}};
        for (int[] w : wrong) {
            CHECK.due("shift " + w[0] + ", " + w[1] + ", " + w[2], x.shift(0, w[0], 1, w[1], w[2]), PLACE);
        }
        CHECK.due("none, at the ends", x.shift(0, 6, 1, 4, 0), 0);
        CHECK.due("the most", x.shift(0, 2, 1, 0, 4), 4);
        items(x, 1, 3, 4, 5, 6);
        items(x, 0, 1, 2, 3, 4, 5, 6);
    }
}
