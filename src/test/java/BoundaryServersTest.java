/**
 * Promises 1 to 10, each sentence that names a boundary on its own: the last number that is as told and the first that
 * is not, what is refused and that it changes nothing, which of two refusals is the answer, what holds at first.
 */
public final class BoundaryServersTest {
    private static final Check CHECK = new Check("boundaries: servers");
    private static final Twins TWINS = new Twins(CHECK);
    private static final int LOW = Integer.MIN_VALUE, HIGH = Integer.MAX_VALUE;
    private static final int NONE = -1, BAD = -2, STATE = -3, FULL = -4;

    private BoundaryServersTest() {
    }

    public static void main(String[] args) {
        nobodyAtFirst();
        nothingElseAtFirst();
        serverNumbers();
        serverFull();
        serverFirstWord();
        ofNumbers();
        ofAsksOnly();
        setNumbers();
        setFirstWord();
        rowNumbers();
        rowFirstWord();
        feedSigns();
        feedFull();
        told();
        stance();
        score();
        CHECK.end();
    }

    /** "Nobody, no COURT." "without one there are no CLAUSES." */
    private static void nobodyAtFirst() {
        CHECK.promise(1);
        TwoServes x = new TwoServes();
        CHECK.due("SERVERS", x.count(0), 0);
        CHECK.due("COURTS", x.count(1), 0);
        for (int server = 0; server < 4; server++) {
            CHECK.due("SERVER " + server, x.of(server, 0), NONE);
        }
        CHECK.due("the first one's number", x.server(0, 0, 9, 9), 0);
        for (int f = 0; f <= 9; f++) {
            CHECK.due("IN of " + f + " without CLAUSES", x.of(0, 10 + f), 95 - 6 * f);
            CHECK.due("WINS of " + f + " without CLAUSES", x.of(0, 20 + f), 40 + 5 * f);
        }
        CHECK.due("the first COURT's number", Courts.court(x, "in 9 f=9"), 0);
    }

    /** "1 at first", "0 at first", "hold nothing (at first)", and what else is empty. */
    private static void nothingElseAtFirst() {
        CHECK.promise(1);
        TwoServes x = new TwoServes();
        CHECK.due("WON", x.told(0), 0);
        CHECK.due("LOST", x.told(1), 0);
        CHECK.due("the STANCE", x.told(2), 1);
        CHECK.due("SEEN", x.count(2), 0);
        CHECK.due("the BOOK", x.count(3), 0);
        CHECK.due("THE TEXT", x.count(4), 0);
        CHECK.due("bodies", x.count(5), 0);
        CHECK.due("THE TRACE", x.trace(0), NONE);
        CHECK.due("THE IMAGE", x.undo(), STATE);
        for (int tape = 0; tape < 6; tape++) {
            CHECK.due("TAPE " + tape, x.item(tape, 0, 1), -11);
        }
        x.server(6, 0, 9, 9);
        CHECK.due("SERVED", x.of(0, 4), 0);
        for (int part = 0; part < 4; part++) {
            CHECK.due("ROW " + part, x.row(0, part, 9), 0);
        }
    }

    /** "A SERVER: its number. NONE: kind; BAD: v, hard, soft": KINDS 0 .. 6, v 0 .. 9, FORCES 0 .. 9. */
    private static void serverNumbers() {
        CHECK.promise(2);
        for (int kind = 0; kind <= 6; kind++) {
            CHECK.due("KIND " + kind, new TwoServes().server(kind, 0, 0, 0), 0);
        }
        CHECK.due("v 9", new TwoServes().server(0, 9, 0, 0), 0);
        CHECK.due("HARD 9", new TwoServes().server(0, 0, 9, 0), 0);
        CHECK.due("SOFT 9", new TwoServes().server(0, 0, 0, 9), 0);
        for (int kind : new int[] {-1, 7, LOW, HIGH}) {
            TWINS.refused("KIND " + kind, BoundaryServersTest::three, NONE, x -> x.server(kind, 0, 0, 0));
        }
        for (int n : new int[] {-1, 10, LOW, HIGH}) {
            TWINS.refused("v " + n, BoundaryServersTest::three, BAD, x -> x.server(0, n, 0, 0));
            TWINS.refused("HARD " + n, BoundaryServersTest::three, BAD, x -> x.server(0, 0, n, 0));
            TWINS.refused("SOFT " + n, BoundaryServersTest::three, BAD, x -> x.server(0, 0, 0, n));
        }
    }

    private static TwoServes three() {
        TwoServes x = Courts.with(0, 1, 2, 3);
        x.server(6, 4, 5, 6);
        x.server(3, 7, 8, 9);
        return x;
    }

    /** "FULL: 4." */
    private static void serverFull() {
        CHECK.promise(2);
        TwoServes x = three();
        CHECK.due("the fourth", x.server(4, 9, 0, 9), 3);
        CHECK.due("the fifth", x.server(4, 9, 0, 9), FULL);
        TWINS.refused("a fifth", FULL, y -> y.server(6, 0, 0, 0));
        TwoServes less = new TwoServes();
        less.image();
        for (int n = 0; n < 4; n++) {
            less.server(n, n, n, n);
        }
        less.undo();
        CHECK.due("undone, the first comes again", less.server(6, 0, 0, 0), 0);
    }

    /** "the first that a call's words name": NONE, then BAD, then FULL. */
    private static void serverFirstWord() {
        CHECK.promise(2);
        TwoServes x = three();
        CHECK.due("kind and v", x.server(7, 10, 0, 0), NONE);
        CHECK.due("kind and soft", x.server(-1, 0, 0, -1), NONE);
        x.server(0, 0, 0, 0);
        CHECK.due("kind and a fifth", x.server(7, 0, 0, 0), NONE);
        CHECK.due("v and a fifth", x.server(0, 10, 0, 0), BAD);
        CHECK.due("hard and a fifth", x.server(0, 0, 10, 0), BAD);
        CHECK.due("soft and a fifth", x.server(0, 0, 0, -1), BAD);
        CHECK.due("all three", x.server(-1, -1, 10, 10), NONE);
    }

    /** "what 0 .. 6, 10 and f IN, 20 and f WINS of FORCE f. NONE." */
    private static void ofNumbers() {
        CHECK.promise(3);
        TwoServes x = Courts.with(2, 3, 8, 4);
        CHECK.due("what 0", x.of(0, 0), 2);
        CHECK.due("what 6", x.of(0, 6), 4);
        CHECK.due("IN of 0", x.of(0, 10), 95);
        CHECK.due("IN of 9", x.of(0, 19), 41);
        CHECK.due("WINS of 0", x.of(0, 20), 40);
        CHECK.due("WINS of 9", x.of(0, 29), 85);
        for (int what : new int[] {-1, 7, 9, 30, LOW, HIGH}) {
            TWINS.refused("what " + what, NONE, y -> y.of(0, what));
        }
        for (int what : new int[] {0, 6, 10, 29}) {
            CHECK.due("SERVER -1, what " + what, x.of(-1, what), NONE);
            CHECK.due("the next SERVER, what " + what, x.of(1, what), NONE);
        }
        TwoServes four = Twins.scene();
        CHECK.due("the last SERVER there may be", four.of(3, 0), 6);
        for (int server : new int[] {-1, 4, LOW, HIGH}) {
            TWINS.refused("SERVER " + server, NONE, y -> y.of(server, 0));
        }
    }

    /** "what is asked changes nothing" */
    private static void ofAsksOnly() {
        CHECK.promise(3);
        for (int what : new int[] {0, 1, 2, 3, 4, 5, 6, 18, 28}) {
            TWINS.asked("of(3, " + what + ")", x -> x.of(3, what));
        }
    }

    /** "what 0 HARD, 1 SOFT, 2 SERVED becomes n: what it was. NONE; BAD.": FORCES 0 .. 9, SERVED "9999 at most". */
    private static void setNumbers() {
        CHECK.promise(4);
        TwoServes x = Courts.with(0, 0, 0, 9);
        CHECK.due("HARD becomes 9", x.set(0, 0, 9), 0);
        CHECK.due("HARD becomes 0", x.set(0, 0, 0), 9);
        CHECK.due("SOFT becomes 0", x.set(0, 1, 0), 9);
        CHECK.due("SOFT becomes 9", x.set(0, 1, 9), 0);
        CHECK.due("SERVED becomes 9999", x.set(0, 2, 9999), 0);
        CHECK.due("SERVED becomes 0", x.set(0, 2, 0), 9999);
        for (int n : new int[] {-1, 10, LOW, HIGH}) {
            TWINS.refused("HARD " + n, BAD, y -> y.set(3, 0, n));
            TWINS.refused("SOFT " + n, BAD, y -> y.set(3, 1, n));
        }
        for (int n : new int[] {-1, 10000, LOW, HIGH}) {
            TWINS.refused("SERVED " + n, BAD, y -> y.set(3, 2, n));
        }
        for (int what : new int[] {-1, 3, LOW, HIGH}) {
            TWINS.refused("what " + what, NONE, y -> y.set(3, what, 1));
        }
        for (int server : new int[] {-1, 4, LOW, HIGH}) {
            TWINS.refused("SERVER " + server, NONE, y -> y.set(server, 0, 1));
        }
    }

    /** NONE, then BAD. */
    private static void setFirstWord() {
        CHECK.promise(4);
        TwoServes x = Courts.with(0, 0, 1, 2);
        CHECK.due("nobody, and n", x.set(1, 0, 10), NONE);
        CHECK.due("what, and n", x.set(0, 3, -1), NONE);
        CHECK.due("nobody, and SERVED", x.set(-1, 2, 10000), NONE);
        CHECK.due("all", x.set(4, 3, HIGH), NONE);
        CHECK.due("10 is no FORCE, but may be SERVED", x.set(0, 2, 10), 0);
    }

    /** "The ROW of a TOLD one becomes a FORCE for SERVED modulo 4 being part: what it was. NONE; BAD; STATE." */
    private static void rowNumbers() {
        CHECK.promise(5);
        TwoServes x = Courts.with(6, 0, 5, 5);
        CHECK.due("part 0 becomes 9", x.row(0, 0, 9), 0);
        CHECK.due("part 0 becomes 0", x.row(0, 0, 0), 9);
        CHECK.due("part 3 becomes 9", x.row(0, 3, 9), 0);
        CHECK.due("part 3 becomes 0", x.row(0, 3, 0), 9);
        for (int part : new int[] {-1, 4, LOW, HIGH}) {
            TWINS.refused("part " + part, NONE, y -> y.row(3, part, 1));
        }
        for (int server : new int[] {-1, 4, LOW, HIGH}) {
            TWINS.refused("SERVER " + server, NONE, y -> y.row(server, 0, 1));
        }
        for (int n : new int[] {-1, 10, LOW, HIGH}) {
            TWINS.refused("n " + n, BAD, y -> y.row(3, 0, n));
        }
        for (int server = 0; server < 3; server++) {
            int other = server;
            TWINS.refused("SERVER " + server + " is of another KIND", STATE, y -> y.row(other, 0, 1));
        }
        for (int kind = 0; kind <= 6; kind++) {
            CHECK.due("KIND " + kind, Courts.with(kind, 0, 5, 5).row(0, 0, 1), kind == 6 ? 0 : STATE);
        }
    }

    /** NONE, then BAD, then STATE. */
    private static void rowFirstWord() {
        CHECK.promise(5);
        TwoServes x = Courts.with(3, 0, 5, 5);
        CHECK.due("nobody, and n", x.row(1, 0, 10), NONE);
        CHECK.due("part, and n", x.row(0, 4, 10), NONE);
        CHECK.due("part, and the KIND", x.row(0, -1, 1), NONE);
        CHECK.due("n, and the KIND", x.row(0, 0, 10), BAD);
        CHECK.due("all three", x.row(0, 4, -1), NONE);
    }

    /** "A sign (0 .. 127) comes behind THE TEXT's: how many it has. BAD" */
    private static void feedSigns() {
        CHECK.promise(6);
        TwoServes x = new TwoServes();
        CHECK.due("sign 0", x.feed(0), 1);
        CHECK.due("sign 127", x.feed(127), 2);
        for (int sign : new int[] {-1, 128, 255, 256 + 'i', LOW, HIGH}) {
            TWINS.refused("sign " + sign, BAD, y -> y.feed(sign));
        }
    }

    /** "bytes, 100 at most": "FULL", and that a bad sign is named ahead of it. */
    private static void feedFull() {
        CHECK.promise(6);
        TwoServes x = new TwoServes();
        for (int n = 1; n < 100; n++) {
            x.feed('i');
        }
        CHECK.due("the hundredth", x.feed('i'), 100);
        CHECK.due("one more", x.feed('i'), FULL);
        CHECK.due("a bad one more", x.feed(128), BAD);
        CHECK.due("a bad one more", x.feed(-1), BAD);
        CHECK.due("100 stay", x.count(4), 100);
        TWINS.refused("the sign behind the hundredth", BoundaryServersTest::fullText, FULL, y -> y.feed('1'));
        TwoServes empty = fullText();
        empty.court();
        CHECK.due("empty again", empty.feed('i'), 1);
    }

    /** A TEXT of 100 bytes that is a COURT as it stands. */
    private static TwoServes fullText() {
        TwoServes x = Courts.with(0, 0, 9, 9);
        x.server(6, 0, 8, 8);
        Courts.feed(x, "in 1 f=9" + "|f=1".repeat(23));
        return x;
    }

    /** "What 0 WON, 1 LOST, 2 the STANCE. NONE." */
    private static void told() {
        CHECK.promise(8);
        TwoServes x = Twins.scene();
        CHECK.due("what 0", x.told(0), 2);
        CHECK.due("what 1", x.told(1), 1);
        CHECK.due("what 2", x.told(2), 2);
        for (int what : new int[] {-1, 3, LOW, HIGH}) {
            TWINS.refused("what " + what, NONE, y -> y.told(what));
        }
        for (int what = 0; what <= 2; what++) {
            int asked = what;
            TWINS.asked("told(" + what + ")", y -> y.told(asked));
        }
    }

    /** "The STANCE becomes n: what it was. NONE.": STANCES 0 .. 2, "1 at first". */
    private static void stance() {
        CHECK.promise(9);
        TwoServes x = new TwoServes();
        CHECK.due("0, from 1 at first", x.stance(0), 1);
        CHECK.due("2", x.stance(2), 0);
        CHECK.due("1", x.stance(1), 2);
        CHECK.due("1 again", x.stance(1), 1);
        for (int n : new int[] {-1, 3, LOW, HIGH}) {
            TWINS.refused("STANCE " + n, NONE, y -> y.stance(n));
        }
    }

    /** "WON, LOST become so (0 .. 4 each, not 4 both): 1. BAD." */
    private static void score() {
        CHECK.promise(10);
        TwoServes x = new TwoServes();
        int[][] so = {{0, 0}, {4, 0}, {0, 4}, {4, 3}, {3, 4}, {3, 3}};
        for (int[] s : so) {
            CHECK.due("score(" + s[0] + ", " + s[1] + ")", x.score(s[0], s[1]), 1);
            CHECK.due("WON", x.told(0), s[0]);
            CHECK.due("LOST", x.told(1), s[1]);
        }
        int[][] not = {{4, 4}, {-1, 0}, {0, -1}, {5, 0}, {0, 5}, {5, 5}, {LOW, 0}, {0, LOW}, {HIGH, 0}, {0, HIGH}};
        for (int[] n : not) {
            TWINS.refused("score(" + n[0] + ", " + n[1] + ")", BAD, y -> y.score(n[0], n[1]));
        }
    }
}
