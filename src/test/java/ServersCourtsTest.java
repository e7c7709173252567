/** Promises 1 to 10: a new object, servers, courts. */
public final class ServersCourtsTest {
    private static final Check CHECK = new Check("servers, courts");
    private static final int LOW = Integer.MIN_VALUE, HIGH = Integer.MAX_VALUE;

    private ServersCourtsTest() {
    }

    public static void main(String[] args) {
        newObject();
        server();
        of();
        kindsForces();
        courtLetters();
        courtSums();
        courtsLong();
        set();
        row();
        feed();
        court();
        courtFaults();
        courtNesting();
        told();
        stance();
        score();
        CHECK.end();
    }

    private static void newObject() {
        CHECK.promise(1);
        TwoServes x = new TwoServes();
        for (int what = 0; what <= 5; what++) {
            CHECK.due("count(" + what + ")", x.count(what), 0);
        }
        CHECK.due("WON", x.told(0), 0);
        CHECK.due("LOST", x.told(1), 0);
        CHECK.due("STANCE", x.told(2), 1);
        CHECK.due("undo()", x.undo(), TwoServes.STATE);
        CHECK.due("of nobody", x.of(0, 0), TwoServes.NONE);
        CHECK.due("read", x.read(0, 0), TwoServes.NO);
        CHECK.due("mean", x.mean(0), TwoServes.NO);
        CHECK.due("looked", x.looked(), -5);
        x.server(0, 0, 9, 9);
        x.stance(2);
        Courts.court(x, "in 9 f>0");
        TwoServes y = new TwoServes();
        CHECK.due("SERVERS of another object", y.count(0), 0);
        CHECK.due("STANCE of another object", y.told(2), 1);
        y.server(0, 0, 9, 9);
        CHECK.due("no COURT in another object", y.of(0, 11), 89);
        CHECK.due("NONE", TwoServes.NONE, -1);
        CHECK.due("BAD", TwoServes.BAD, -2);
        CHECK.due("STATE", TwoServes.STATE, -3);
        CHECK.due("FULL", TwoServes.FULL, -4);
        CHECK.due("NO", TwoServes.NO, Long.MIN_VALUE);
    }

    private static void server() {
        CHECK.promise(2);
        TwoServes x = new TwoServes();
        for (int kind : new int[] {-1, 7, LOW, HIGH}) {
            CHECK.due("server kind " + kind, x.server(kind, 0, 0, 0), -1);
            CHECK.due("NONE ahead of BAD", x.server(kind, 10, 10, 10), -1);
        }
        for (int bad : new int[] {-1, 10, LOW, HIGH}) {
            CHECK.due("server v " + bad, x.server(0, bad, 0, 0), -2);
            CHECK.due("server hard " + bad, x.server(0, 0, bad, 0), -2);
            CHECK.due("server soft " + bad, x.server(0, 0, 0, bad), -2);
        }
        CHECK.due("none came so far", x.count(0), 0);
        CHECK.due("first", x.server(6, 9, 9, 9), 0);
        CHECK.due("second", x.server(0, 0, 0, 0), 1);
        CHECK.due("third", x.server(4, 5, 6, 7), 2);
        CHECK.due("fourth", x.server(5, 1, 2, 3), 3);
        CHECK.due("fifth", x.server(0, 0, 0, 0), -4);
        CHECK.due("NONE ahead of FULL", x.server(7, 0, 0, 0), -1);
        CHECK.due("BAD ahead of FULL", x.server(0, 0, 0, 10), -2);
        CHECK.due("four stay", x.count(0), 4);
        CHECK.due("the third's HARD", x.of(2, 2), 6);
    }

    private static void of() {
        CHECK.promise(3);
        TwoServes x = Courts.with(3, 4, 7, 2);
        int[] due = {3, 4, 7, 2, 0, 7, 2};
        for (int what = 0; what < due.length; what++) {
            CHECK.due("of(0, " + what + ")", x.of(0, what), due[what]);
        }
        for (int f = 0; f < 10; f++) {
            CHECK.due("IN of " + f, x.of(0, 10 + f), 95 - 6 * f);
            CHECK.due("WINS of " + f, x.of(0, 20 + f), 40 + 5 * f);
        }
        for (int what : new int[] {-1, 7, 8, 9, 30, LOW, HIGH}) {
            CHECK.due("of(0, " + what + ")", x.of(0, what), -1);
        }
        for (int server : new int[] {-1, 1, 4, LOW, HIGH}) {
            CHECK.due("of(" + server + ", 0)", x.of(server, 0), -1);
        }
        TwoServes read = Courts.with(4, 9, 5, 5);
        CHECK.due("IN of READ", read.of(0, 13), 77);
        CHECK.due("WINS of READ", read.of(0, 29), 85 - 9);
        Courts.court(read, "win 99 f=9;win 0 f=0");
        CHECK.due("100, and v less", read.of(0, 29), 91);
    }

    private static void kindsForces() {
        CHECK.promise(3);
        int[][] due = {{8, 3}, {8, 8}, {3, 3}, {8, 3}, {8, 8}, {3, 3}, {0, 3}};
        for (int kind = 0; kind < due.length; kind++) {
            forces(Courts.with(kind, 1, 8, 3), "KIND " + kind, due[kind][0], due[kind][1]);
        }
        TwoServes tiring = Courts.with(3, 0, 2, 9);
        int[][] servedFirst = {{19, 2}, {20, 1}, {39, 1}, {40, 0}, {60, 0}, {9999, 0}};
        for (int[] pair : servedFirst) {
            tiring.set(0, 2, pair[0]);
            forces(tiring, "TIRING at " + pair[0], pair[1], 9);
        }
        TwoServes sure = Courts.with(5, 0, 8, 3);
        int[][] wonLostFirst = {{2, 2, 3}, {3, 0, 8}, {0, 3, 8}, {3, 3, 8}, {4, 0, 3}, {4, 3, 8}, {0, 4, 3}};
        for (int[] row : wonLostFirst) {
            sure.score(row[0], row[1]);
            forces(sure, "SURE at " + row[0] + ", " + row[1], row[2], 3);
        }
        TwoServes timid = Courts.with(2, 0, 8, 3);
        timid.score(3, 3);
        forces(timid, "TIMID at 3, 3", 3, 3);
        TwoServes told = Courts.with(6, 0, 8, 3);
        for (int part = 0; part < 4; part++) {
            told.row(0, part, 9 - part);
        }
        for (int served = 0; served < 9; served++) {
            told.set(0, 2, served);
            forces(told, "TOLD at " + served, 9 - served % 4, 3);
        }
    }

    private static void forces(TwoServes x, String when, int first, int second) {
        CHECK.due("FIRST of " + when, x.of(0, 5), first);
        CHECK.due("SECOND of " + when, x.of(0, 6), second);
    }

    /** Each letter with each comparison, at a number below, at and above the value. */
    private static void courtLetters() {
        CHECK.promise(3);
        TwoServes x = new TwoServes();
        x.server(0, 0, 0, 0);
        x.server(0, 0, 0, 0);
        x.server(5, 0, 0, 0);
        x.stance(1);
        x.score(2, 3);
        x.image();
        String letters = "pkfswl";
        int[] values = {2, 5, 4, 1, 2, 3};
        for (int i = 0; i < values.length; i++) {
            for (int n = values[i] - 1; n <= values[i] + 1; n++) {
                holds(x, "" + letters.charAt(i) + "<" + n, values[i] < n);
                holds(x, "" + letters.charAt(i) + "=" + n, values[i] == n);
                holds(x, "" + letters.charAt(i) + ">" + n, values[i] > n);
            }
        }
        holds(x, "p=2&k=5&f=4&s=1&w=2&l=3", true);
        holds(x, "p=2&k=5&f=4&s=1&w=2&l=4", false);
        holds(x, "p=0|k=5&f=3", false);
        holds(x, "p=2|k=5&f=3", true);
        holds(x, "p=2&k=0|f=4", true);
        holds(x, "(p=2|k=5)&f=3", false);
        holds(x, "!p=2|k=5", true);
        holds(x, "!(p=2|k=5)", false);
        holds(x, "!!p=2&!k=4", true);
        holds(x, "!p=2&!k=4", false);
        holds(x, "f=04&f<99", true);
        holds(x, "p=2&(k=0)", false);
        holds(x, "p=2&(k=0|l=0)&f=4|w=0", false);
        holds(x, "w=0|p=2&((k=5)&!(l=0))", true);
    }

    /** Whether the E holds of SERVER 2 and FORCE 4: six COURTS at most, so each on an object of its own. */
    private static void holds(TwoServes like, String e, boolean due) {
        TwoServes x = new TwoServes();
        x.server(0, 0, 0, 0);
        x.server(0, 0, 0, 0);
        x.server(like.of(2, 0), 0, 0, 0);
        x.stance(like.told(2));
        x.score(like.told(0), like.told(1));
        CHECK.due("court of " + e, Courts.court(x, "in 7 " + e), 0);
        CHECK.due(e, x.of(2, 14) - (95 - 6 * 4), due ? 7 : 0);
    }

    private static void courtSums() {
        CHECK.promise(3);
        TwoServes x = Courts.with(0, 0, 5, 5);
        Courts.court(x, "in 30 f>2;in 9 f>2;out 20 f>2;win 7 f<5;win 8 f>3;win 50 f=9");
        CHECK.due("IN 0", x.of(0, 10), 95);
        CHECK.due("IN 3: 77 and 19", x.of(0, 13), 96);
        CHECK.due("IN 9: 41 and 19", x.of(0, 19), 60);
        CHECK.due("WINS 4: both", x.of(0, 24), 75);
        CHECK.due("WINS 5: one", x.of(0, 25), 73);
        CHECK.due("WINS 9: 100 at most", x.of(0, 29), 100);
        Courts.court(x, "out 99 f>5;out 50 f<3;in 99 f<3");
        CHECK.due("the newest holds", x.of(0, 24), 60);
        CHECK.due("IN 9: 0 at least", x.of(0, 19), 0);
        CHECK.due("together, then 100 at most", x.of(0, 10), 100);
        CHECK.due("IN 4 as without", x.of(0, 14), 71);
        Courts.court(x, "in 9 f=9" + "|f=9".repeat(22) + ";");
        Courts.court(x, "in 1 f=9" + ";in 1 f=9".repeat(10));
        Courts.court(x, "in 1 f=9" + ";in 1 f=9".repeat(9));
        CHECK.due("ten CLAUSES, whatever was read ahead of them", x.of(0, 19), 51);
    }

    private static void courtsLong() {
        CHECK.promise(3);
        TwoServes x = Courts.with(0, 0, 5, 5);
        for (int n = 0; n < 3; n++) {
            Courts.court(x, "in 1 f=8" + "|f=8".repeat(22) + ")");
        }
        Courts.court(x, "in 1 f=8|!f<9" + "|f=8".repeat(21));
        CHECK.due("a long one, whatever was read ahead of it", x.of(0, 19), 42);
    }

    private static void set() {
        CHECK.promise(4);
        TwoServes x = Courts.with(0, 3, 8, 2);
        CHECK.due("set HARD", x.set(0, 0, 5), 8);
        CHECK.due("set SOFT", x.set(0, 1, 9), 2);
        CHECK.due("set SERVED", x.set(0, 2, 9999), 0);
        CHECK.due("HARD", x.of(0, 2), 5);
        CHECK.due("SOFT", x.of(0, 3), 9);
        CHECK.due("SERVED", x.of(0, 4), 9999);
        CHECK.due("set again", x.set(0, 2, 0), 9999);
        for (int n : new int[] {-1, 10, LOW, HIGH}) {
            CHECK.due("HARD " + n, x.set(0, 0, n), -2);
            CHECK.due("SOFT " + n, x.set(0, 1, n), -2);
        }
        for (int n : new int[] {-1, 10000, LOW, HIGH}) {
            CHECK.due("SERVED " + n, x.set(0, 2, n), -2);
        }
        for (int what : new int[] {-1, 3, LOW, HIGH}) {
            CHECK.due("what " + what, x.set(0, what, 1), -1);
            CHECK.due("NONE ahead of BAD", x.set(0, what, -1), -1);
        }
        CHECK.due("nobody", x.set(1, 0, 1), -1);
        CHECK.due("nobody, ahead of BAD", x.set(-1, 0, 10), -1);
        CHECK.due("HARD stays", x.of(0, 2), 5);
        CHECK.due("SOFT stays", x.of(0, 3), 9);
        CHECK.due("SERVED stays", x.of(0, 4), 0);
    }

    private static void row() {
        CHECK.promise(5);
        TwoServes x = new TwoServes();
        x.server(6, 0, 0, 0);
        x.server(3, 0, 0, 0);
        x.server(6, 0, 0, 0);
        for (int part = 0; part < 4; part++) {
            CHECK.due("0 at first", x.row(0, part, part + 5), 0);
        }
        for (int part = 0; part < 4; part++) {
            CHECK.due("what it was", x.row(0, part, 9 - part), part + 5);
        }
        CHECK.due("another's ROW is its own", x.row(2, 1, 3), 0);
        CHECK.due("and the first's stays", x.row(0, 1, 8), 8);
        for (int part : new int[] {-1, 4, LOW, HIGH}) {
            CHECK.due("part " + part, x.row(0, part, 10), -1);
            CHECK.due("part ahead of STATE", x.row(1, part, 1), -1);
        }
        CHECK.due("nobody", x.row(3, 0, 10), -1);
        for (int n : new int[] {-1, 10, LOW, HIGH}) {
            CHECK.due("n " + n, x.row(0, 0, n), -2);
            CHECK.due("BAD ahead of STATE", x.row(1, 0, n), -2);
        }
        CHECK.due("TIRING has none", x.row(1, 0, 1), -3);
        CHECK.due("refusals change nothing", x.row(0, 0, 1), 9);
    }

    private static void feed() {
        CHECK.promise(6);
        TwoServes x = new TwoServes();
        for (int sign : new int[] {-1, 128, LOW, HIGH}) {
            CHECK.due("feed(" + sign + ")", x.feed(sign), -2);
        }
        CHECK.due("feed(0)", x.feed(0), 1);
        CHECK.due("feed(127)", x.feed(127), 2);
        for (int n = 3; n <= 100; n++) {
            CHECK.due("feed " + n, x.feed('i'), n);
        }
        CHECK.due("the 101st", x.feed('i'), -4);
        CHECK.due("BAD ahead of FULL", x.feed(128), -2);
        CHECK.due("100 stay", x.count(4), 100);
    }

    private static void court() {
        CHECK.promise(7);
        TwoServes x = Courts.with(0, 0, 5, 5);
        for (int n = 0; n < 6; n++) {
            CHECK.due("COURT " + n, Courts.court(x, "in " + n + " f=9"), n);
            CHECK.due("THE TEXT is empty then", x.count(4), 0);
            CHECK.due("it holds", x.of(0, 19), 41 + n);
            if (n < 5) {
                CHECK.due("a FAULT", Courts.court(x, "in 9 f=9)"), -18);
                CHECK.due("THE TEXT is empty then too", x.count(4), 0);
                CHECK.due("the one that held holds", x.of(0, 19), 41 + n);
            }
        }
        CHECK.due("a seventh", Courts.court(x, "in 9 f=9"), -4);
        CHECK.due("THE TEXT stays", x.count(4), 8);
        CHECK.due("a faulty seventh", Courts.court(x, "x"), -4);
        CHECK.due("THE TEXT stays", x.count(4), 9);
        CHECK.due("the sixth holds", x.of(0, 19), 46);
        CHECK.due("six COURTS", x.count(1), 6);
    }

    private static void courtFaults() {
        CHECK.promise(7);
        fault("", 0);
        fault("I", 0);
        fault(" in 1 f=1", 0);
        fault("i", 1);
        fault("iin 1 f=1", 1);
        fault("in", 2);
        fault("in1 f=1", 2);
        fault("win ", 4);
        fault("wi", 2);
        fault("wim 1 f=1", 2);
        fault("ou 1 f=1", 2);
        fault("out  1 f=1", 4);
        fault("out -1 f=1", 4);
        fault("in 1", 4);
        fault("in 12", 5);
        fault("in 123 f=1", 5);
        fault("in 1  f=1", 5);
        fault("in 1 F=1", 5);
        fault("in 1 f", 6);
        fault("in 1 f!1", 6);
        fault("in 1 f<=1", 7);
        fault("in 1 f=", 7);
        fault("in 1 f=x", 7);
        fault("in 1 f=12", -1);
        fault("in 1 f=123", 9);
        fault("in 1 f=1 ", 8);
        fault("in 1 f=1&", 9);
        fault("in 1 f=1&&f=1", 9);
        fault("in 1 f=1&|f=1", 9);
        fault("in 1 f=1|", 9);
        fault("in 1 (f=1", 9);
        fault("in 1 (f=1;in 1 f=1", 9);
        fault("in 1 ()", 6);
        fault("in 1 f=1)", 8);
        fault("in 1 (f=1))", 10);
        fault("in 1 (f=1)f=1", 10);
        fault("in 1 !", 6);
        fault("in 1 f=!1", 7);
        fault("in 1 f=1;", 9);
        fault("in 1 f=1; in 1 f=1", 9);
        fault("in 1 f=1;;", 9);
        fault("in 1 f=1,in 1 f=1", 8);
        fault("in 1 f=1" + (char) 0, 8);
        fault("in 00 f=00", -1);
        String ten = "in 1 f=1" + ";in 1 f=1".repeat(9);
        fault(ten, -1);
        fault(ten + ";", ten.length());
        fault(ten + "|f=2", -1);
        String hundred = "in 1 f=10" + "|f=1".repeat(22) + "|p<";
        fault(hundred, 100);
        fault("in 1 f=1" + "|f=1".repeat(23), -1);
    }

    private static void courtNesting() {
        CHECK.promise(7);
        fault("in 1 ((((f=1))))", -1);
        fault("in 1 (((((f=1)))))", 9);
        fault("in 1 !!!!f=1", -1);
        fault("in 1 !!!!!f=1", 9);
        fault("in 1 !(!(f=1))", -1);
        fault("in 1 !(!(!f=1))", 9);
        fault("in 1 !(!((f=1)))", 9);
        fault("in 1 (((f=1|!(f=2))))", 13);
        fault("in 1 ((((f=1))))&!!!!f=2|((((f=3))))", -1);
        fault("in 1 !(f=1)&!(f=1)&!(f=1)&!(f=1)&!(f=1)", -1);
    }

    /** A FAULT, or -1 where the text is a COURT. */
    private static void fault(String text, int due) {
        String fed = text.length() > 100 ? text.substring(0, 100) : text;
        TwoServes x = new TwoServes();
        CHECK.due("court of '" + fed + "'", Courts.court(x, fed), due == -1 ? 0 : -10 - due);
        CHECK.due("COURTS after '" + fed + "'", x.count(1), due == -1 ? 1 : 0);
    }

    private static void told() {
        CHECK.promise(8);
        TwoServes x = new TwoServes();
        x.score(2, 3);
        x.stance(0);
        CHECK.due("WON", x.told(0), 2);
        CHECK.due("LOST", x.told(1), 3);
        CHECK.due("STANCE", x.told(2), 0);
        for (int what : new int[] {-1, 3, LOW, HIGH}) {
            CHECK.due("told(" + what + ")", x.told(what), -1);
        }
    }

    private static void stance() {
        CHECK.promise(9);
        TwoServes x = new TwoServes();
        CHECK.due("1 at first", x.stance(2), 1);
        CHECK.due("then 2", x.stance(0), 2);
        for (int n : new int[] {-1, 3, LOW, HIGH}) {
            CHECK.due("stance(" + n + ")", x.stance(n), -1);
        }
        CHECK.due("0 stays", x.told(2), 0);
    }

    private static void score() {
        CHECK.promise(10);
        TwoServes x = new TwoServes();
        for (int won = 0; won <= 4; won++) {
            for (int lost = 0; lost <= 4; lost++) {
                boolean both = won == 4 && lost == 4;
                CHECK.due("score(" + won + ", " + lost + ")", x.score(won, lost), both ? -2 : 1);
                CHECK.due("WON", x.told(0), won);
                CHECK.due("LOST", x.told(1), both ? 3 : lost);
            }
        }
        for (int n : new int[] {-1, 5, LOW, HIGH}) {
            CHECK.due("score(" + n + ", 0)", x.score(n, 0), -2);
            CHECK.due("score(0, " + n + ")", x.score(0, n), -2);
        }
        CHECK.due("WON stays", x.told(0), 4);
        CHECK.due("LOST stays", x.told(1), 3);
    }
}
