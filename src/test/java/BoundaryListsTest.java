/**
 * Promises 24 to 29, each sentence that names a boundary on its own: SEEN and the BOOK empty and full, fractions at their
 * ends, a THE GAME that is over ahead of a row of the BOOK or within it.
 */
public final class BoundaryListsTest {
    private static final Check CHECK = new Check("boundaries: seen, odds, books");
    private static final Twins TWINS = new Twins(CHECK);
    private static final int LOW = Integer.MIN_VALUE, HIGH = Integer.MAX_VALUE;
    private static final int NONE = -1, BAD = -2, FULL = -4, NONE_FOUND = -5, MILLION = 1000000;
    private static final long NO = Long.MIN_VALUE;

    private BoundaryListsTest() {
    }

    public static void main(String[] args) {
        seeNumbers();
        seeFull();
        seeNoneThen();
        who();
        whoNow();
        oddsNumbers();
        oddsEnds();
        oddsLowestTerms();
        meanNumbers();
        meanLowestTerms();
        bookNumbers();
        bookFull();
        bookFirstWord();
        bookEmptyThen();
        lookedNone();
        lookedFirstLost();
        lookedOverAhead();
        lookedOverWithin();
        lookedServed();
        lookedFromNowOn();
        CHECK.end();
    }

    /** "Two FORCES are SEEN: how many rows there are": NONE. */
    private static void seeNumbers() {
        CHECK.promise(24);
        TwoServes x = new TwoServes();
        CHECK.due("0, 0", x.see(0, 0), 1);
        CHECK.due("9, 9", x.see(9, 9), 2);
        CHECK.due("the same again", x.see(9, 9), 3);
        for (int n : new int[] {-2, 10, LOW, HIGH}) {
            TWINS.refused("a " + n, NONE, y -> y.see(n, 0));
        }
        for (int n : new int[] {-1, 10, LOW, HIGH}) {
            TWINS.refused("b " + n, NONE, y -> y.see(0, n));
        }
    }

    /** "(6 at most)": "NONE; FULL: 6." */
    private static void seeFull() {
        CHECK.promise(24);
        TwoServes x = sixSeen();
        CHECK.due("six", x.count(2), 6);
        CHECK.due("a, and a seventh", x.see(10, 0), NONE);
        CHECK.due("b, and a seventh", x.see(0, -1), NONE);
        CHECK.due("a seventh", x.see(0, 0), FULL);
        TWINS.refused("a seventh", BoundaryListsTest::sixSeen, FULL, y -> y.see(9, 9));
        CHECK.due("the sixth is there", x.who(), 0b10);
        x.see(-1, 0);
        CHECK.due("room again", x.see(9, 9), 1);
    }

    /** Six rows: the last is that of SERVER 1, none that of SERVER 0. */
    private static TwoServes sixSeen() {
        TwoServes x = Courts.with(0, 0, 9, 9);
        x.server(0, 0, 8, 2);
        for (int n = 1; n <= 5; n++) {
            CHECK.due("row " + n, x.see(n, 0), n);
        }
        CHECK.due("the sixth", x.see(8, 2), 6);
        return x;
    }

    /** "(a -1: none then, 0, whatever the other is)" */
    private static void seeNoneThen() {
        CHECK.promise(24);
        for (int other : new int[] {0, 9, -1, 10, LOW, HIGH}) {
            TwoServes x = sixSeen();
            CHECK.due("none, with " + other, x.see(-1, other), 0);
            CHECK.due("none is there", x.count(2), 0);
            CHECK.due("none is SEEN", x.who(), 0);
        }
        TwoServes none = new TwoServes();
        CHECK.due("none of none", none.see(-1, 0), 0);
        TwoServes x = Twins.scene();
        CHECK.due("b -1 is not so", x.see(0, -1), NONE);
        CHECK.due("all stay", x.count(2), 3);
    }

    /** "as bits, whose FIRST, SECOND now are, by some row of SEEN, just these" */
    private static void who() {
        CHECK.promise(25);
        TwoServes nobody = new TwoServes();
        nobody.see(0, 0);
        CHECK.due("nobody", nobody.who(), 0);
        TwoServes x = new TwoServes();
        for (int n = 0; n < 4; n++) {
            x.server(0, 0, 5 + n, n);
        }
        CHECK.due("nothing SEEN", x.who(), 0);
        for (int n = 0; n < 4; n++) {
            x.see(-1, 0);
            x.see(5 + n, n);
            CHECK.due("SERVER " + n + " alone", x.who(), 1 << n);
        }
        x.see(7, 2);
        x.see(5, 0);
        x.see(6, 1);
        CHECK.due("all by several rows", x.who(), 0b1111);
        x.see(-1, 0);
        x.see(5, 1);
        x.see(6, 0);
        x.see(0, 5);
        CHECK.due("both of one row it must be", x.who(), 0);
        TwoServes ends = Courts.with(0, 0, 0, 0);
        ends.server(0, 0, 9, 9);
        ends.server(0, 0, 0, 9);
        ends.server(0, 0, 9, 0);
        ends.see(0, 9);
        CHECK.due("0, 9", ends.who(), 0b0100);
        ends.see(9, 9);
        CHECK.due("9, 9", ends.who(), 0b0110);
        ends.see(0, 0);
        CHECK.due("0, 0", ends.who(), 0b0111);
        TWINS.asked("who()", TwoServes::who);
    }

    /** "FIRST, SECOND now": tired at 20, sure at 3, by the ROW modulo 4. */
    private static void whoNow() {
        CHECK.promise(25);
        TwoServes x = Courts.with(3, 0, 8, 2);
        x.server(5, 0, 8, 2);
        x.server(6, 0, 0, 2);
        x.row(2, 3, 8);
        x.see(8, 2);
        x.set(0, 2, 19);
        x.score(3, 0);
        x.set(2, 2, 3);
        CHECK.due("all", x.who(), 0b111);
        x.set(0, 2, 20);
        CHECK.due("one is tired", x.who(), 0b110);
        x.score(4, 0);
        CHECK.due("one is sure no more", x.who(), 0b100);
        x.set(2, 2, 4);
        CHECK.due("the ROW goes on", x.who(), 0);
    }

    /** "ODDS; part 0 above, 1 below the line. NO." */
    private static void oddsNumbers() {
        CHECK.promise(26);
        for (int part : new int[] {-1, 2, LOW, HIGH}) {
            TWINS.refused("part " + part, NO, x -> x.odds(3, part));
        }
        for (int server : new int[] {-1, 4, LOW, HIGH}) {
            TWINS.refused("SERVER " + server, NO, x -> x.odds(server, 0));
            TWINS.refused("SERVER " + server + ", part 1", NO, x -> x.odds(server, 1));
        }
        CHECK.due("the next SERVER", Courts.with(0, 0, 5, 5).odds(1, 1), NO);
        TWINS.asked("odds(3, 0)", x -> x.odds(3, 0));
        TWINS.asked("odds(3, 1)", x -> x.odds(3, 1));
    }

    private static void odds(String court, long above, long below) {
        TwoServes x = Courts.with(0, 0, 5, 5);
        CHECK.due("court of " + court, Courts.court(x, court), 0);
        for (int stance = 0; stance < 3; stance++) {
            x.stance(stance);
            CHECK.due("above by " + court, x.odds(0, 0), above);
            CHECK.due("below by " + court, x.odds(0, 1), below);
        }
    }

    /** 0 of 1, 1 of 1: how likely "if the STANCE is any, each alike likely", whatever it is. */
    private static void oddsEnds() {
        CHECK.promise(26);
        odds("out 65 f=5", 0, 1);
        odds("in 35 f=5;win 35 f=5", 1, 1);
        odds("in 35 f=5;win 35 f=5;out 99 s=0;out 1 s=0", 2, 3);
        odds("in 35 f=5;win 35 f=5;out 99 s>0;out 1 s>0", 1, 3);
    }

    /** "a fraction in lowest terms" */
    private static void oddsLowestTerms() {
        CHECK.promise(26);
        // 5 is in by 65 and wins by 65: 65 * 65 * 100 + 35 * 65 * 65 = 570375 = 4563 * 125
        odds("in 0 f=5", 4563, 8000);
        // in by 50, and won by 80: 600000
        odds("out 15 f=5;win 15 f=5", 3, 5);
        // the same at one STANCE, never at two: 600000 of 3000000
        odds("out 15 f=5;win 15 f=5;out 50 s<2", 1, 5);
        // in by 1, and won by 99: 9900 + 99 * 99 = 19701, at one STANCE alone
        odds("out 64 s=1;win 34 f=5;out 65 !s=1", 6567, 1000000);
        // in by 1, and won by 97: 97 * 199 = 19303, which 3 does not divide
        odds("out 64 s=1;win 32 f=5;out 65 !s=1", 19303, 3000000);
    }

    /** "MEAN; part likewise. NO.": "(NO: nobody)" */
    private static void meanNumbers() {
        CHECK.promise(27);
        for (int part : new int[] {-1, 2, LOW, HIGH}) {
            TWINS.refused("part " + part, NO, x -> x.mean(part));
        }
        TwoServes x = new TwoServes();
        CHECK.due("nobody, above", x.mean(0), NO);
        CHECK.due("nobody, below", x.mean(1), NO);
        x.score(4, 0);
        CHECK.due("nobody, and over", x.mean(0), NO);
        x.image();
        x.server(0, 0, 5, 5);
        CHECK.due("somebody", x.mean(0), MILLION);
        x.undo();
        CHECK.due("nobody again", x.mean(1), NO);
        TWINS.asked("mean(0)", y -> y.mean(0));
        TWINS.asked("mean(1)", y -> y.mean(1));
    }

    /** "GAME of all SERVERS, together, by how many they are: a fraction in lowest terms", of one SERVER to four. */
    private static void meanLowestTerms() {
        CHECK.promise(27);
        TwoServes x = new TwoServes();
        x.score(3, 3);
        // 47 * 80 * 100 + 53 * 83 * 50 = 595950, and 41 * 85 * 100 + 59 * 83 * 50 = 593350
        mean(x, 8, 595950, 1);
        mean(x, 9, 594650, 1);
        // 65 * 65 * 100 + 35 * 83 * 50 = 567750: 1757050 by 3
        mean(x, 5, 1757050, 3);
        // 71 * 60 * 100 + 29 * 83 * 50 = 546350: 2303400 by 4
        mean(x, 4, 575850, 1);
        x.set(3, 0, 3);
        // 77 * 55 * 100 + 23 * 83 * 50 = 518950: 2276000 by 4
        CHECK.due("by 3 for 4", x.mean(0), 569000);
        x.set(3, 0, 0);
        x.set(3, 1, 0);
        // 95 * 40 * 100 + 5 * 95 * 40 = 399000: 2156050 by 4
        CHECK.due("2156050 by 4", x.mean(0), 1078025);
        CHECK.due("which is by 2", x.mean(1), 2);
        x.set(3, 1, 9);
        // 95 * 40 * 100 + 5 * 41 * 85 = 397425: 2154475 by 4
        CHECK.due("2154475 by 4", x.mean(0), 2154475);
        CHECK.due("stays by 4", x.mean(1), 4);
        x.score(0, 4);
        CHECK.due("0", x.mean(0), 0);
        CHECK.due("by 1", x.mean(1), 1);
        x.score(4, 0);
        CHECK.due("a million each", x.mean(0), MILLION);
        CHECK.due("by 1", x.mean(1), 1);
    }

    private static void mean(TwoServes x, int hard, long above, long below) {
        x.server(0, 0, hard, 2);
        CHECK.due("MEAN with " + hard, x.mean(0), above);
        CHECK.due("by, with " + hard, x.mean(1), below);
    }

    /** "A row comes to the BOOK: how many there are": "NONE; BAD: draws", DRAWS 0 .. 99. */
    private static void bookNumbers() {
        CHECK.promise(28);
        TwoServes x = Courts.with(0, 0, 5, 5);
        CHECK.due("0, 0", x.book(0, 0, 0), 1);
        CHECK.due("99, 99", x.book(0, 99, 99), 2);
        CHECK.due("the next SERVER", x.book(1, 0, 0), NONE);
        for (int n : new int[] {-1, 100, LOW, HIGH}) {
            TWINS.refused("d " + n, BAD, y -> y.book(3, n, 0));
            TWINS.refused("e " + n, BAD, y -> y.book(3, 0, n));
        }
        for (int server : new int[] {-2, 4, LOW, HIGH}) {
            TWINS.refused("SERVER " + server, NONE, y -> y.book(server, 0, 0));
        }
    }

    /** "(10 at most)": "FULL: 10." */
    private static void bookFull() {
        CHECK.promise(28);
        TwoServes x = tenBooked();
        CHECK.due("an eleventh", x.book(0, 0, 0), FULL);
        CHECK.due("ten", x.count(3), 10);
        CHECK.due("the tenth is there", x.looked(), 9);
        TWINS.refused("an eleventh", BoundaryListsTest::tenBooked, FULL, y -> y.book(0, 99, 99));
        x.book(-1, 0, 0);
        CHECK.due("room again", x.book(0, 99, 99), 1);
    }

    /** Ten rows, of which the last alone is lost. */
    private static TwoServes tenBooked() {
        TwoServes x = Courts.with(0, 0, 5, 5);
        for (int n = 1; n < 10; n++) {
            CHECK.due("row " + n, x.book(0, 0, 0), n);
        }
        CHECK.due("the tenth", x.book(0, 99, 99), 10);
        return x;
    }

    /** -1 ahead of all, then NONE, then BAD, then FULL. */
    private static void bookFirstWord() {
        CHECK.promise(28);
        TwoServes x = tenBooked();
        CHECK.due("nobody, and d", x.book(1, 100, 0), NONE);
        CHECK.due("nobody, and e", x.book(-2, 0, -1), NONE);
        CHECK.due("nobody, and an eleventh", x.book(4, 0, 0), NONE);
        CHECK.due("d, and an eleventh", x.book(0, -1, 0), BAD);
        CHECK.due("e, and an eleventh", x.book(0, 0, 100), BAD);
        CHECK.due("all", x.book(1, 100, 100), NONE);
    }

    /** "(server -1: it is empty then, 0, whatever the others are)" */
    private static void bookEmptyThen() {
        CHECK.promise(28);
        for (int other : new int[] {0, 99, -1, 100, LOW, HIGH}) {
            TwoServes x = tenBooked();
            CHECK.due("empty, with " + other, x.book(-1, other, other), 0);
            CHECK.due("empty", x.count(3), 0);
            CHECK.due("none to look at", x.looked(), NONE_FOUND);
        }
        CHECK.due("empty already, and nobody there", new TwoServes().book(-1, 0, 0), 0);
    }

    /** "(-5: none)": of an empty BOOK, of one row, of ten. */
    private static void lookedNone() {
        CHECK.promise(29);
        TwoServes x = Courts.with(0, 0, 5, 5);
        CHECK.due("an empty BOOK", x.looked(), NONE_FOUND);
        for (int n = 1; n <= 10; n++) {
            x.book(0, 0, 0);
            CHECK.due("none of " + n, x.looked(), NONE_FOUND);
        }
        CHECK.due("nobody", new TwoServes().looked(), NONE_FOUND);
        x.book(-1, 0, 0);
        x.book(0, 99, 99);
        CHECK.due("a lost one", x.looked(), 0);
        x.book(-1, 0, 0);
        CHECK.due("which is away", x.looked(), NONE_FOUND);
        x.book(0, 0, 0);
        CHECK.due("and a won one alone", x.looked(), NONE_FOUND);
        TWINS.asked("looked()", TwoServes::looked);
    }

    /** "the first that is lost": at each place. */
    private static void lookedFirstLost() {
        CHECK.promise(29);
        for (int lost = 0; lost < 10; lost++) {
            TwoServes x = Courts.with(0, 0, 5, 5);
            for (int n = 0; n < 10; n++) {
                // 5 is in below 65 and wins below 65; from the first lost one on, all are lost or won in turn
                x.book(0, 64, n < lost ? 64 : n % 2 == lost % 2 ? 65 : 64);
            }
            CHECK.due("the first that is lost", x.looked(), lost);
        }
    }

    /** "(ahead of each, if THE GAME is over, WON and LOST become 0)": ahead of the first. */
    private static void lookedOverAhead() {
        CHECK.promise(29);
        // a POINT by 5 is won at 0, 0 alone
        String court = "in 35 w=0&l=0;out 65 !(w=0&l=0)";
        int[][] scoreDue = {{0, 0, 1}, {4, 0, 1}, {4, 3, 1}, {0, 4, 1}, {3, 4, 1}, {3, 0, 0}, {0, 3, 0}, {3, 3, 0}};
        for (int[] s : scoreDue) {
            TwoServes x = Courts.with(0, 0, 5, 5);
            Courts.court(x, court);
            x.score(s[0], s[1]);
            x.book(0, 0, 0);
            x.book(0, 0, 0);
            CHECK.due("from " + s[0] + ", " + s[1], x.looked(), s[2]);
            CHECK.due("WON stays", x.told(0), s[0]);
            CHECK.due("LOST stays", x.told(1), s[1]);
        }
    }

    /** The same ahead of a later row: the fourth POINT is played at 3, the fifth at 0 again. */
    private static void lookedOverWithin() {
        CHECK.promise(29);
        for (int won = 0; won < 4; won++) {
            TwoServes x = Courts.with(0, 0, 5, 5);
            Courts.court(x, "out 65 w=" + won);
            for (int n = 0; n < 10; n++) {
                x.book(0, 0, 0);
            }
            CHECK.due("lost when WON is " + won, x.looked(), won);
            for (int from = 1; from <= 4; from++) {
                x.score(from, 0);
                int due = (won - from % 4 + 4) % 4;
                CHECK.due("from " + from + ", lost when WON is " + won, x.looked(), due);
            }
        }
        TwoServes never = Courts.with(0, 0, 5, 5);
        Courts.court(never, "out 65 w=4|l>0");
        for (int n = 0; n < 10; n++) {
            never.book(0, 0, 0);
        }
        CHECK.due("WON is never 4 when a POINT begins", never.looked(), NONE_FOUND);
        never.score(3, 3);
        CHECK.due("LOST stays until THE GAME is over", never.looked(), 0);
        never.score(3, 4);
        CHECK.due("and becomes 0 with WON", never.looked(), NONE_FOUND);
    }

    /** SERVED goes on from row to row, "9999 at most", each SERVER's its own. */
    private static void lookedServed() {
        CHECK.promise(29);
        TwoServes x = Courts.with(6, 0, 5, 5);
        x.server(6, 0, 5, 5);
        // by 9: in at 40, won at 84; by 0: in at 40, lost at 84
        x.row(0, 2, 9);
        x.row(0, 3, 9);
        x.row(1, 0, 9);
        x.set(0, 2, 9998);
        for (int n = 0; n < 4; n++) {
            x.book(0, 40, 84);
        }
        x.book(1, 40, 84);
        CHECK.due("by 9 at 9999 again and again, and the other by its own", x.looked(), NONE_FOUND);
        x.book(1, 40, 84);
        CHECK.due("which goes on too", x.looked(), 5);
        CHECK.due("SERVED stays", x.of(0, 4), 9998);
        x.set(0, 2, 3);
        CHECK.due("3 goes on to 0 modulo 4", x.looked(), 1);
    }

    /** "from now on": by the FORCES, the COURT, the STANCE that are when it is looked at. */
    private static void lookedFromNowOn() {
        CHECK.promise(29);
        TwoServes x = Courts.with(0, 0, 5, 5);
        x.book(0, 64, 64);
        CHECK.due("won", x.looked(), NONE_FOUND);
        x.stance(0);
        Courts.court(x, "win 1 s=2;out 1 s=0");
        CHECK.due("out by the newer COURT, and by the second one too little", x.looked(), 0);
        x.stance(1);
        CHECK.due("not so at another STANCE", x.looked(), NONE_FOUND);
        x.set(0, 0, 4);
        CHECK.due("lost by HARD 4, which wins below 60", x.looked(), 0);
        x.stance(2);
        CHECK.due("and below 61", x.looked(), 0);
    }
}
