/**
 * Promises 3 and 7 with the terms of COURTS and of FIRST, SECOND: where a text begins a COURT no more, how many CLAUSES,
 * blanks, digits, others around a ( or !, where IN and WINS end, when a KIND's FORCES change.
 */
public final class BoundaryCourtsTest {
    private static final Check CHECK = new Check("boundaries: courts");
    private static final Twins TWINS = new Twins(CHECK);
    private static final int FULL = -4;
    private static final String DIGITS = "0123456789", F = "pkfswl(!";

    private BoundaryCourtsTest() {
    }

    public static void main(String[] args) {
        bytesThatGoOn();
        endsTooEarly();
        wrongByteAtEachPlace();
        clauses();
        hundredBytes();
        nested();
        besideIsNotWithin();
        emptyThen();
        sixCourts();
        theOneThatHeld();
        newestHolds();
        inEnds();
        winsEnds();
        readLess();
        testsAtTheirNumber();
        tiring();
        sure();
        toldRow();
        CHECK.end();
    }

    private static TwoServes fed(String text) {
        TwoServes x = Courts.with(0, 0, 9, 9);
        Courts.feed(x, text);
        return x;
    }

    private static int answer(String text) {
        return fed(text).court();
    }

    private static void fault(String text, int place) {
        CHECK.due("court of '" + text + "'", answer(text), -10 - place);
    }

    private static void stands(String text) {
        CHECK.due("court of '" + text + "'", answer(text), 0);
    }

    /** "The FAULT: the place of the first byte with which none begins so": all 128 bytes behind many beginnings. */
    private static void bytesThatGoOn() {
        CHECK.promise(7);
        String nine = "in 9 f<5;".repeat(9);
        String[][] begun = {
            {"", "iwo"}, {"i", "n"}, {"w", "i"}, {"wi", "n"}, {"o", "u"}, {"ou", "t"},
            {"in", " "}, {"win", " "}, {"out", " "}, {"in ", DIGITS}, {"win ", DIGITS}, {"out ", DIGITS},
            {"in 9", DIGITS + " "}, {"in 99", " "}, {"out 00", " "}, {"in 9 ", F}, {"win 99 ", F},
            {"in 9 p", "<=>"}, {"in 9 k", "<=>"}, {"in 9 f", "<=>"}, {"in 9 s", "<=>"}, {"in 9 w", "<=>"},
            {"in 9 l", "<=>"}, {"in 9 f<", DIGITS}, {"in 9 f=", DIGITS}, {"in 9 f>", DIGITS},
            {"in 9 f<5", DIGITS + "&|;"}, {"in 9 f<50", "&|;"}, {"in 9 f<05", "&|;"},
            {"in 9 f<5;", "iwo"}, {"in 9 f<5&", F}, {"in 9 f<5|", F}, {"in 9 f<5&f<5|", F},
            {"in 9 (", F}, {"in 9 (f<5", DIGITS + "&|)"}, {"in 9 (f<50", "&|)"}, {"in 9 (f<50)", "&|;"},
            {"in 9 (f<50&", F}, {"in 9 ((f<5)", "&|)"}, {"in 9 !", F}, {"in 9 !f<5", DIGITS + "&|;"},
            {"in 9 !(f<5)", "&|;"}, {"in 9 (((", F}, {"in 9 ((((", "pkfswl"}, {"in 9 !!!", F},
            {"in 9 !!!!", "pkfswl"}, {"in 9 (!(!", "pkfswl"}, {"in 9 !(!(", "pkfswl"},
            {"in 9 !((f<5|", F}, {"in 9 !(((f<5|", "pkfswl"}, {"in 9 ((((f<50", "&|)"}, {"in 9 ((((f<5)", "&|)"},
            {"in 9 ((((f<5))))", "&|;"}, {"in 9 !!!!f<50", "&|;"},
            {nine, "iwo"}, {nine + "in 9 f<5", DIGITS + "&|"}, {nine + "in 9 f<50", "&|"}, {nine + "in 9 (f<5)", "&|"}};
        for (String[] b : begun) {
            for (int sign = 0; sign < 128; sign++) {
                boolean on = b[1].indexOf(sign) >= 0;
                String text = b[0] + (char) sign;
                int answer = answer(text);
                CHECK.that("sign " + sign + " behind '" + b[0] + "' answered " + answer,
                    on ? answer >= 0 || answer == -10 - text.length() : answer == -10 - b[0].length());
            }
        }
    }

    /** "(the end of THE TEXT, if it ends too early)": a text cut at each place. */
    private static void endsTooEarly() {
        CHECK.promise(7);
        String text = "in 12 !(s=1&l>20)|w=0;win 3 f<45;out 7 ((p=3))";
        for (int end = 0; end < text.length(); end++) {
            String cut = text.substring(0, end);
            boolean stands = wholeAt(text, end);
            CHECK.due("court of '" + cut + "'", answer(cut), stands ? 0 : -10 - end);
        }
        stands(text);
        CHECK.due("empty", answer(""), -10);
    }

    /** Whether the CLAUSES up to this place are whole ones: all ( closed, and a digit or a ) at the end. */
    private static boolean wholeAt(String text, int end) {
        String last = text.substring(text.lastIndexOf(';', end - 1) + 1, end);
        int open = 0;
        for (int i = 0; i < last.length(); i++) {
            open += last.charAt(i) == '(' ? 1 : last.charAt(i) == ')' ? -1 : 0;
        }
        return last.matches("\\w+ \\d+ .*[\\d)]") && open == 0;
    }

    /** A byte that begins nothing, at each place. */
    private static void wrongByteAtEachPlace() {
        CHECK.promise(7);
        String text = "in 12 !(s=1&l>20)|w=0;win 3 f<45;out 7 ((p=3))";
        for (int place = 0; place < text.length(); place++) {
            fault(text.substring(0, place) + "#" + text.substring(place + 1), place);
        }
        fault(text + "#", text.length());
        fault("#" + text + "#", 0);
    }

    /** "CLAUSES, 1 to 10, with ; between", "one blank ahead of each part", "n 1 or 2 digits" */
    private static void clauses() {
        CHECK.promise(7);
        String one = "in 1 f=9";
        fault("", 0);
        stands(one);
        String ten = one + (";" + one).repeat(9);
        stands(ten);
        fault(ten + ";", 89);
        fault(ten + ";" + one, 89);
        fault(";" + one, 0);
        fault(one + ";", 9);
        fault(one + ";;" + one, 9);
        fault("in1 f=9", 2);
        fault("in  1 f=9", 3);
        fault("in 1f=9", 4);
        fault("in 1  f=9", 5);
        fault("in 1 f=9 ;" + one, 8);
        fault("in  f=9", 3);
        stands("in 0 f=9");
        stands("in 99 f=9");
        fault("in 100 f=9", 5);
        stands("in 1 f=0");
        stands("in 1 f=99");
        fault("in 1 f=100", 9);
        fault("in 1 f=", 7);
    }

    /** "bytes, 100 at most": a COURT of 100 bytes, a FAULT at its last byte and one at its end. */
    private static void hundredBytes() {
        CHECK.promise(7);
        String hundred = "in 1 f=9" + "|f=1".repeat(23);
        CHECK.due("bytes", hundred.length(), 100);
        TwoServes x = fed(hundred);
        CHECK.due("none comes behind it", x.feed('0'), FULL);
        CHECK.due("a COURT", x.court(), 0);
        CHECK.due("which holds", x.of(0, 19), 42);
        CHECK.due("for 1 too", x.of(0, 11), 90);
        CHECK.due("and not for 2", x.of(0, 12), 83);
        fault(hundred.substring(0, 99) + "x", 99);
        fault(hundred.substring(0, 99) + "&", 99);
        fault("in 11 f=9" + "|f=1".repeat(22) + "|f=", 100);
        fault("in 1 ((((" + "f=1|".repeat(22) + "f=1", 100);
    }

    /** "A ( or ! within 4 others is none." */
    private static void nested() {
        CHECK.promise(7);
        for (int bits = 0; bits < 32; bits++) {
            StringBuilder opened = new StringBuilder("in 1 ");
            StringBuilder closed = new StringBuilder("f=9");
            for (int level = 0; level < 5; level++) {
                boolean not = (bits >> level & 1) == 1;
                if (level == 4) {
                    stands(opened.toString() + closed);
                }
                opened.append(not ? '!' : '(');
                closed.append(not ? "" : ")");
            }
            fault(opened.toString() + closed, 9);
        }
    }

    /** Those that are closed, or stand beside, are not around it. */
    private static void besideIsNotWithin() {
        CHECK.promise(7);
        stands("in 1 ((((f=9))))&((((f=9))))|!!!!f=9&!(!(f=9));in 1 ((((f=9))))");
        stands("in 1 (((f=9)&(f=9)&!f=9))");
        stands("in 1 (((f=9)|((f=9))))");
        fault("in 1 (((f=9)|((f=9)&(!f=9))))", 21);
        fault("in 1 ((((f=9)|(f=9)))|((((!f=9)))))", 25);
        TwoServes x = fed("in 7 ((((f=9))))&((((f>8))))|!!!!f=1");
        x.court();
        CHECK.due("IN of 9", x.of(0, 19), 48);
        CHECK.due("IN of 1", x.of(0, 11), 96);
        CHECK.due("IN of 8", x.of(0, 18), 47);
    }

    /** "THE TEXT, which is empty then": whether it is a COURT or has a FAULT. */
    private static void emptyThen() {
        CHECK.promise(7);
        TwoServes x = fed("in 5 f=9");
        CHECK.due("a COURT", x.court(), 0);
        CHECK.due("empty", x.count(4), 0);
        CHECK.due("an empty one has its FAULT at 0", x.court(), -10);
        CHECK.due("fed anew", x.feed('x'), 1);
        CHECK.due("a FAULT", x.court(), -10);
        CHECK.due("empty", x.count(4), 0);
        CHECK.due("fed anew", x.feed('w'), 1);
        Courts.feed(x, "in 3 f=9");
        CHECK.due("the next COURT", x.court(), 1);
    }

    /** "FULL: there are 6 (THE TEXT stays)", whatever is in it. */
    private static void sixCourts() {
        CHECK.promise(7);
        TwoServes x = sixAlready();
        CHECK.due("six", x.count(1), 6);
        CHECK.due("an empty TEXT", x.court(), FULL);
        Courts.feed(x, "in 30 f=9");
        CHECK.due("a seventh", x.court(), FULL);
        CHECK.due("THE TEXT stays", x.count(4), 9);
        CHECK.due("the sixth holds", x.of(0, 19), 41 + 5);
        x.feed('x');
        CHECK.due("FULL ahead of the FAULT", x.court(), FULL);
        CHECK.due("it stays too", x.count(4), 10);
        TWINS.refused("a seventh", () -> {
            TwoServes y = sixAlready();
            Courts.feed(y, "in 9 f");
            return y;
        }, FULL, TwoServes::court);
    }

    private static TwoServes sixAlready() {
        TwoServes x = Courts.with(0, 0, 9, 9);
        for (int n = 0; n < 6; n++) {
            CHECK.due("COURT " + n, Courts.court(x, "in " + n + " f=9"), n);
        }
        return x;
    }

    /** "-10 less the FAULT (the one that held holds)", or none, if none did; only THE TEXT is otherwise then. */
    private static void theOneThatHeld() {
        CHECK.promise(7);
        TwoServes none = fed("in 9 f=9)");
        CHECK.due("a FAULT", none.court(), -18);
        CHECK.due("no COURT holds", none.of(0, 19), 41);
        CHECK.due("there is none", none.count(1), 0);
        TwoServes x = fed("in 5 f=9");
        x.court();
        CHECK.due("a FAULT behind a whole CLAUSE", Courts.court(x, "in 30 f=9;win 30 f=9;"), -31);
        CHECK.due("the one that held holds", x.of(0, 19), 46);
        CHECK.due("and its WINS", x.of(0, 29), 85);
        CHECK.due("the FAULT took no number", Courts.court(x, "in 6 f=9"), 1);
        TwoServes faulty = Twins.scene();
        CHECK.due("too early", faulty.court(), -16);
        TwoServes emptied = Twins.scene();
        emptied.feed('x');
        CHECK.due("a FAULT", emptied.court(), -16);
        TWINS.alike("all but THE TEXT stays", faulty, emptied);
    }

    /** "The newest COURT holds (6 at most)": it alone. */
    private static void newestHolds() {
        CHECK.promise(7);
        TwoServes x = fed("win 1 f=9");
        x.court();
        CHECK.due("the first", x.of(0, 29), 86);
        for (int n = 2; n <= 6; n++) {
            Courts.court(x, "in " + n + " f=9");
            CHECK.due("IN by the newest", x.of(0, 19), 41 + n);
            CHECK.due("WINS by none", x.of(0, 29), 85);
        }
    }

    private static void in(String clauses, int force, int due) {
        TwoServes x = fed(clauses);
        CHECK.due("court of " + clauses, x.court(), 0);
        CHECK.due("IN of " + force + " by " + clauses, x.of(0, 10 + force), due);
    }

    /** IN "together (0 .. 100)": the last that are not cut, the first that are, and cut only when all is together. */
    private static void inEnds() {
        CHECK.promise(3);
        in("in 4 f=0", 0, 99);
        in("in 5 f=0", 0, 100);
        in("in 6 f=0", 0, 100);
        in("in 99 f=0;in 99 f=0", 0, 100);
        in("out 40 f=9", 9, 1);
        in("out 41 f=9", 9, 0);
        in("out 42 f=9", 9, 0);
        in("out 99 f=9;out 99 f=9", 9, 0);
        in("in 99 f=0;out 99 f=0", 0, 95);
        in("out 99 f=9;in 99 f=9", 9, 41);
        in("in 50 f=9;in 50 f=9;out 99 f=9", 9, 42);
        in("in 0 f=9;out 0 f=9", 9, 41);
        in("in 09 f=9", 9, 50);
        in("win 99 f=9", 9, 41);
        in("in 1 f=9;in 1 f=9;in 1 f=9;in 1 f=9;in 1 f=9;in 1 f=9;in 1 f=9;in 1 f=9;in 1 f=9;in 1 f=9", 9, 51);
    }

    private static void wins(int kind, int v, String clauses, int force, int due) {
        TwoServes x = Courts.with(kind, v, 9, 9);
        CHECK.due("court of " + clauses, Courts.court(x, clauses), 0);
        CHECK.due("WINS of " + force + " by " + clauses, x.of(0, 20 + force), due);
    }

    /** WINS "together (0 .. 100)" */
    private static void winsEnds() {
        CHECK.promise(3);
        wins(0, 9, "win 14 f=9", 9, 99);
        wins(0, 9, "win 15 f=9", 9, 100);
        wins(0, 9, "win 16 f=9", 9, 100);
        wins(0, 9, "win 99 f=9;win 99 f=9", 9, 100);
        wins(0, 9, "win 59 f=0", 0, 99);
        wins(0, 9, "win 60 f=0", 0, 100);
        wins(0, 9, "win 61 f=0", 0, 100);
        wins(0, 9, "win 0 f=0", 0, 40);
        wins(0, 9, "in 99 f=0;out 99 f=0", 0, 40);
    }

    /** "for READ v less (0 at least)": less than the 100 at most; as WINS are 40 at least, 0 is never reached. */
    private static void readLess() {
        CHECK.promise(3);
        wins(4, 9, "win 15 f=9", 9, 91);
        wins(4, 9, "win 16 f=9", 9, 91);
        wins(4, 9, "win 14 f=9", 9, 90);
        wins(4, 1, "win 99 f=9", 9, 99);
        wins(4, 0, "win 99 f=9", 9, 100);
        wins(4, 9, "win 0 f=0", 0, 31);
        wins(1, 9, "win 0 f=0", 0, 40);
        for (int kind = 0; kind <= 6; kind++) {
            CHECK.due("WINS of KIND " + kind, Courts.with(kind, 9, 0, 0).of(0, 20), kind == 4 ? 31 : 40);
        }
    }

    /** "a letter, < or = or >, a number": below, at and above each end of what a letter may be. */
    private static void testsAtTheirNumber() {
        CHECK.promise(3);
        TwoServes x = new TwoServes();
        x.server(0, 0, 0, 0);
        x.server(0, 0, 0, 0);
        x.server(0, 0, 0, 0);
        x.server(6, 0, 0, 0);
        x.score(4, 0);
        x.stance(2);
        Courts.court(x, "in 1 p>2;in 2 p=3;in 4 p<3;win 1 k>5;win 2 k=6;win 4 k<6");
        CHECK.due("p of the last", x.of(3, 19), 41 + 3);
        CHECK.due("p of the first", x.of(0, 19), 41 + 4);
        CHECK.due("k of TOLD", x.of(3, 20), 40 + 3);
        CHECK.due("k of SERVER", x.of(0, 20), 40 + 4);
        Courts.court(x, "in 1 f>8;in 2 f=9;in 4 f<9;win 1 f>0;win 2 f=0;win 4 f<1");
        CHECK.due("f 9", x.of(0, 19), 41 + 3);
        CHECK.due("f 8", x.of(0, 18), 47 + 4);
        CHECK.due("f 0", x.of(0, 20), 40 + 6);
        CHECK.due("f 1", x.of(0, 21), 45 + 1);
        Courts.court(x, "in 1 s>1;in 2 s=2;in 4 s<2;win 1 w>3;win 2 w=4;win 4 w<4;win 8 l>0;win 16 l=0;win 32 l<1");
        CHECK.due("s 2", x.of(0, 19), 41 + 3);
        CHECK.due("w 4, l 0", x.of(0, 20), 40 + 3 + 48);
        x.stance(0);
        x.score(0, 4);
        CHECK.due("s 0", x.of(0, 19), 41 + 4);
        CHECK.due("w 0, l 4", x.of(0, 20), 40 + 4 + 8);
        Courts.court(x, "in 1 f<99;in 2 f=09;in 4 f>00;in 8 f<00;in 16 f>99");
        CHECK.due("two digits", x.of(0, 19), 41 + 7);
        CHECK.due("0 is not above 00", x.of(0, 10), 96);
        for (char letter : "pkfswl".toCharArray()) {
            in("in 1 " + letter + "<0", 0, 95);
            in("in 1 !" + letter + "<0", 0, 96);
            in("in 1 " + letter + ">99", 0, 95);
            in("in 1 !" + letter + ">99", 0, 96);
            in("in 1 " + letter + "=99|" + letter + "<0&" + letter + ">99", 0, 95);
        }
    }

    /** TIRING: "HARD less SERVED by 20 (cut; 0 at least), SOFT." */
    private static void tiring() {
        CHECK.promise(3);
        TwoServes x = Courts.with(3, 0, 2, 1);
        int[][] servedFirst = {{0, 2}, {1, 2}, {19, 2}, {20, 1}, {21, 1}, {39, 1}, {40, 0}, {41, 0}, {59, 0}, {60, 0},
            {9998, 0}, {9999, 0}};
        for (int[] pair : servedFirst) {
            x.set(0, 2, pair[0]);
            CHECK.due("FIRST at " + pair[0], x.of(0, 5), pair[1]);
            CHECK.due("SECOND at " + pair[0], x.of(0, 6), 1);
        }
        x.set(0, 0, 9);
        x.set(0, 2, 179);
        CHECK.due("9 at 179", x.of(0, 5), 1);
        x.set(0, 2, 180);
        CHECK.due("9 at 180", x.of(0, 5), 0);
        x.set(0, 0, 0);
        x.set(0, 2, 20);
        CHECK.due("0 at 20", x.of(0, 5), 0);
    }

    /** SURE: "as TIMID, but HARD, SOFT, if WON or LOST is 3." */
    private static void sure() {
        CHECK.promise(3);
        TwoServes x = Courts.with(5, 0, 8, 3);
        TwoServes timid = Courts.with(2, 0, 8, 3);
        for (int won = 0; won <= 4; won++) {
            for (int lost = 0; lost <= 4 && won + lost < 8; lost++) {
                x.score(won, lost);
                timid.score(won, lost);
                CHECK.due("SURE at " + won + ", " + lost, x.of(0, 5), won == 3 || lost == 3 ? 8 : 3);
                CHECK.due("its SECOND", x.of(0, 6), 3);
                CHECK.due("TIMID at " + won + ", " + lost, timid.of(0, 5), 3);
            }
        }
    }

    /** TOLD: "its ROW (four FORCES; 0 at first) at SERVED modulo 4, SOFT." */
    private static void toldRow() {
        CHECK.promise(3);
        TwoServes x = Courts.with(6, 0, 9, 1);
        for (int served = 0; served < 4; served++) {
            x.set(0, 2, served);
            CHECK.due("0 at first, at " + served, x.of(0, 5), 0);
        }
        for (int part = 0; part < 4; part++) {
            x.row(0, part, 5 + part);
        }
        int[][] servedFirst = {{0, 5}, {1, 6}, {3, 8}, {4, 5}, {7, 8}, {8, 5}, {9996, 5}, {9998, 7}, {9999, 8}};
        for (int[] pair : servedFirst) {
            x.set(0, 2, pair[0]);
            CHECK.due("FIRST at " + pair[0], x.of(0, 5), pair[1]);
            CHECK.due("SECOND at " + pair[0], x.of(0, 6), 1);
        }
    }
}
