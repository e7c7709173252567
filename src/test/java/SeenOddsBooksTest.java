/** Promises 24 to 29: seen, odds, books. Without a COURT IN is 95 - 6f and WINS 40 + 5f. */
public final class SeenOddsBooksTest {
    private static final Check CHECK = new Check("seen, odds, books");
    private static final int LOW = Integer.MIN_VALUE, HIGH = Integer.MAX_VALUE;

    private SeenOddsBooksTest() {
    }

    public static void main(String[] args) {
        see();
        who();
        odds();
        mean();
        book();
        looked();
        lookedOver();
        lookedTiring();
        CHECK.end();
    }

    private static void see() {
        CHECK.promise(24);
        TwoServes x = new TwoServes();
        CHECK.due("none, ahead of any", x.see(-1, 99), 0);
        for (int n = 1; n <= 6; n++) {
            CHECK.due("row " + n, x.see(n, 9), n);
        }
        CHECK.due("a seventh", x.see(0, 0), -4);
        for (int force : new int[] {10, LOW, HIGH, -2}) {
            CHECK.due("a " + force, x.see(force, 0), -1);
            CHECK.due("b " + force, x.see(0, force), -1);
        }
        CHECK.due("b -1", x.see(0, -1), -1);
        CHECK.due("six stay", x.count(2), 6);
        CHECK.due("none then", x.see(-1, HIGH), 0);
        CHECK.due("none", x.count(2), 0);
        CHECK.due("the first again", x.see(0, 0), 1);
    }

    private static void who() {
        CHECK.promise(25);
        TwoServes x = new TwoServes();
        CHECK.due("nobody", x.who(), 0);
        x.server(0, 0, 8, 2);
        x.server(1, 0, 8, 2);
        x.server(3, 0, 8, 2);
        x.server(5, 0, 8, 2);
        CHECK.due("nothing seen", x.who(), 0);
        x.see(8, 2);
        CHECK.due("SERVER, TIRING", x.who(), 0b0101);
        x.set(2, 2, 20);
        CHECK.due("TIRING is tired", x.who(), 0b0001);
        x.see(2, 2);
        CHECK.due("SURE by the second row", x.who(), 0b1001);
        x.see(-1, 0);
        x.see(7, 2);
        x.see(8, 8);
        CHECK.due("TIRING, DARING", x.who(), 0b0110);
        x.score(3, 0);
        x.see(8, 2);
        CHECK.due("all", x.who(), 0b1111);
        x.see(-1, 0);
        x.see(2, 8);
        CHECK.due("the other way round is another", x.who(), 0);
        x.see(8, 3);
        x.see(7, 8);
        CHECK.due("half is not enough", x.who(), 0);
    }

    private static void odds() {
        CHECK.promise(26);
        TwoServes x = Courts.with(0, 0, 8, 2);
        // 595950 of a million whatever the STANCE
        CHECK.due("above", x.odds(0, 0), 11919);
        CHECK.due("below", x.odds(0, 1), 20000);
        x.stance(2);
        Courts.court(x, "win 10 s=0&f=2;out 20 s=2&f=8");
        fraction(x, 47L * 80 * 100 + 53 * 83 * 60 + 47 * 80 * 100 + 53 * 83 * 50 + 27 * 80 * 100 + 73 * 83 * 50, 3000000);
        CHECK.due("the STANCE is as it was", x.told(2), 2);
        for (int part : new int[] {-1, 2, LOW, HIGH}) {
            CHECK.due("part " + part, x.odds(0, part), TwoServes.NO);
        }
        for (int server : new int[] {-1, 1, LOW, HIGH}) {
            CHECK.due("nobody", x.odds(server, 0), TwoServes.NO);
        }
        Courts.court(x, "out 99 f>1");
        CHECK.due("never: 0", x.odds(0, 0), 0);
        CHECK.due("never: of 1", x.odds(0, 1), 1);
        Courts.court(x, "in 99 f=8;win 99 f=8");
        CHECK.due("always: 1", x.odds(0, 0), 1);
        CHECK.due("always: of 1", x.odds(0, 1), 1);
        Courts.court(x, "in 99 f=8&s=0;win 99 f=8;out 99 !(f=8&s=0)");
        CHECK.due("at one STANCE: 1", x.odds(0, 0), 1);
        CHECK.due("at one STANCE: of 3", x.odds(0, 1), 3);
    }

    /** The fraction may be any just as large, but in lowest terms. */
    private static void fraction(TwoServes x, long above, long below) {
        long up = x.odds(0, 0);
        long down = x.odds(0, 1);
        CHECK.due("as large", up * below, down * above);
        for (long n = 2; n <= down; n++) {
            CHECK.that("no " + n + " in both", up % n != 0 || down % n != 0);
        }
    }

    private static void mean() {
        CHECK.promise(27);
        TwoServes x = new TwoServes();
        CHECK.due("nobody", x.mean(0), TwoServes.NO);
        CHECK.due("nobody", x.mean(1), TwoServes.NO);
        x.server(0, 0, 8, 2);
        x.score(3, 3);
        CHECK.due("one alone", x.mean(0), 595950);
        CHECK.due("of 1", x.mean(1), 1);
        x.score(0, 0);
        x.server(2, 0, 8, 2);
        x.server(1, 0, 8, 2);
        // 595950, 83 * 50 * 100 + 17 * 83 * 50 = 485550, 47 * 80 * 100 + 53 * 47 * 80 = 575280
        x.score(3, 3);
        CHECK.due("552260 for three", x.mean(0), (595950 + 485550 + 575280) / 3);
        CHECK.due("of 1", x.mean(1), 1);
        x.server(1, 0, 8, 8);
        x.set(3, 0, 7);
        // 7: 53 * 75 * 100 + 47 * 53 * 75 = 584325
        CHECK.due("2241105 by 4", x.mean(0), 595950 + 485550 + 575280 + 584325);
        CHECK.due("by 4", x.mean(1), 4);
        x.set(3, 0, 8);
        CHECK.due("2232060 by 4", x.mean(0), 558015);
        CHECK.due("of 1", x.mean(1), 1);
        x.score(0, 4);
        CHECK.due("0", x.mean(0), 0);
        CHECK.due("of 1", x.mean(1), 1);
        x.score(4, 0);
        CHECK.due("a million", x.mean(0), 1000000);
        for (int part : new int[] {-1, 2, LOW, HIGH}) {
            CHECK.due("part " + part, x.mean(part), TwoServes.NO);
        }
    }

    private static void book() {
        CHECK.promise(28);
        TwoServes x = Courts.with(0, 0, 8, 2);
        for (int draw : new int[] {-1, 100, LOW, HIGH}) {
            CHECK.due("d " + draw, x.book(0, draw, 0), -2);
            CHECK.due("e " + draw, x.book(0, 0, draw), -2);
            CHECK.due("NONE ahead of BAD", x.book(1, draw, 0), -1);
        }
        for (int server : new int[] {-2, 1, 4, LOW, HIGH}) {
            CHECK.due("nobody", x.book(server, 0, 0), -1);
        }
        for (int n = 1; n <= 10; n++) {
            CHECK.due("row " + n, x.book(0, 99, 0), n);
        }
        CHECK.due("an eleventh", x.book(0, 0, 0), -4);
        CHECK.due("BAD ahead of FULL", x.book(0, 100, 0), -2);
        CHECK.due("NONE ahead of FULL", x.book(1, 0, 0), -1);
        CHECK.due("ten stay", x.count(3), 10);
        CHECK.due("empty, whatever the others are", x.book(-1, LOW, HIGH), 0);
        CHECK.due("empty", x.count(3), 0);
        CHECK.due("the first again", x.book(0, 0, 0), 1);
    }

    private static void looked() {
        CHECK.promise(29);
        TwoServes x = Courts.with(0, 0, 8, 2);
        CHECK.due("an empty BOOK", x.looked(), -5);
        x.book(0, 0, 0);
        x.book(0, 46, 79);
        CHECK.due("none is lost", x.looked(), -5);
        x.book(0, 46, 80);
        x.book(0, 46, 81);
        CHECK.due("the first that is lost", x.looked(), 2);
        CHECK.due("nothing was played", x.told(0), 0);
        CHECK.due("nothing was served", x.of(0, 4), 0);
        CHECK.due("the same again", x.looked(), 2);
        x.set(0, 0, 9);
        CHECK.due("with 9 the draw 46 is out, the second wins below 50", x.looked(), -5);
        x.book(0, 46, 83);
        CHECK.due("and is out at 83", x.looked(), 4);
        x.book(-1, 0, 0);
        CHECK.due("empty again", x.looked(), -5);
        x.book(0, 99, 99);
        CHECK.due("lost at once", x.looked(), 0);
    }

    private static void lookedOver() {
        CHECK.promise(29);
        TwoServes x = Courts.with(0, 0, 8, 2);
        Courts.court(x, "in 99 w<9;win 99 l=0&w<2;out 99 w=2");
        for (int n = 0; n < 3; n++) {
            x.book(0, 50, 99);
        }
        CHECK.due("from 0, 0 the third", x.looked(), 2);
        x.score(1, 0);
        CHECK.due("from 1, 0 the second", x.looked(), 1);
        x.score(4, 2);
        CHECK.due("over: from 0, 0", x.looked(), 2);
        CHECK.due("WON is as it was", x.told(0), 4);
        CHECK.due("LOST is as it was", x.told(1), 2);
        TwoServes long10 = Courts.with(0, 0, 8, 2);
        Courts.court(long10, "in 99 f<10;win 99 l=0&f<10");
        for (int n = 0; n < 10; n++) {
            long10.book(0, 50, 99);
        }
        CHECK.due("two GAMES over on the way", long10.looked(), -5);
        long10.score(3, 1);
        CHECK.due("99 is too much at LOST 1", long10.looked(), 0);
        long10.score(0, 4);
        CHECK.due("over: LOST becomes 0", long10.looked(), -5);
    }

    private static void lookedTiring() {
        CHECK.promise(29);
        TwoServes x = Courts.with(3, 0, 9, 9);
        x.server(6, 0, 0, 0);
        x.set(0, 2, 18);
        // 9 is in below 41 and wins below 85, 8 is in below 47 and wins below 80
        x.book(0, 0, 84);
        x.book(1, 0, 0);
        x.book(0, 0, 84);
        x.book(0, 0, 84);
        CHECK.due("SERVED goes on in the BOOK: the third is by 8", x.looked(), 3);
        x.set(0, 2, 17);
        CHECK.due("not yet", x.looked(), -5);
        TwoServes told = Courts.with(6, 0, 9, 9);
        told.row(0, 3, 9);
        told.book(0, 0, 39);
        told.book(0, 0, 39);
        told.book(0, 0, 39);
        told.book(0, 0, 40);
        told.book(0, 0, 40);
        CHECK.due("by the ROW: the fourth by 9, the fifth by 0", told.looked(), 4);
    }
}
