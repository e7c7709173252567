/**
 * Promises 11 to 23, each sentence that names a boundary on its own: the last and the first draw, force and number, what
 * is refused, that asking changes nothing, the ends of CHANCES, GAMES and MATCHES, ties.
 */
public final class BoundaryPointsTest {
    private static final Check CHECK = new Check("boundaries: points, games");
    private static final Twins TWINS = new Twins(CHECK);
    private static final int LOW = Integer.MIN_VALUE, HIGH = Integer.MAX_VALUE;
    private static final int NONE = -1, BAD = -2, STATE = -3, NONE_FOUND = -5;
    private static final int NO_DIFFERENCE = -1000001, BAD_DIFFERENCE = -1000002, MILLION = 1000000;

    private BoundaryPointsTest() {
    }

    public static void main(String[] args) {
        chanceNumbers();
        chanceEnds();
        faultsNumbers();
        faultsEnds();
        playNumbers();
        playFirstWord();
        playOver();
        playFirstServe();
        playSecondServe();
        playModulo();
        playServed();
        best();
        bestTies();
        risk();
        dare();
        more();
        moreNineAtMost();
        fresh();
        safe();
        stand();
        gameNumbers();
        gameOver();
        gameCut();
        gameBySituation();
        swing();
        match();
        matchFirstWord();
        matchCut();
        ahead();
        aheadFirstWord();
        CHECK.end();
    }

    private static TwoServes on(String court, int kind, int hard, int soft) {
        TwoServes x = Courts.with(kind, 0, hard, soft);
        CHECK.due("court of " + court, Courts.court(x, court), 0);
        return x;
    }

    /** "CHANCE by two FORCES. NONE." */
    private static void chanceNumbers() {
        CHECK.promise(11);
        TwoServes x = Courts.with(0, 0, 5, 5);
        CHECK.due("0, 0", x.chance(0, 0, 0), 95 * 40 * 100 + 5 * 95 * 40);
        CHECK.due("9, 9", x.chance(0, 9, 9), 41 * 85 * 100 + 59 * 41 * 85);
        CHECK.due("0, 9", x.chance(0, 0, 9), 95 * 40 * 100 + 5 * 41 * 85);
        CHECK.due("9, 0", x.chance(0, 9, 0), 41 * 85 * 100 + 59 * 95 * 40);
        for (int n : new int[] {-1, 10, LOW, HIGH}) {
            TWINS.refused("a " + n, NONE, y -> y.chance(3, n, 0));
            TWINS.refused("b " + n, NONE, y -> y.chance(3, 0, n));
        }
        for (int server : new int[] {-1, 4, LOW, HIGH}) {
            TWINS.refused("SERVER " + server, NONE, y -> y.chance(server, 0, 0));
        }
        CHECK.due("the next SERVER", x.chance(1, 0, 0), NONE);
        TWINS.asked("chance(3, 9, 0)", y -> y.chance(3, 9, 0));
    }

    /** "(of a million)": 0 and 1000000, and just inside. */
    private static void chanceEnds() {
        CHECK.promise(11);
        TwoServes x = on("in 5 f=0;win 60 f=0;out 41 f=9;in 28 f=4;win 39 f=4", 0, 5, 5);
        CHECK.due("always in, always won", x.chance(0, 0, 9), MILLION);
        CHECK.due("never in", x.chance(0, 9, 9), 0);
        CHECK.due("always by the second", x.chance(0, 9, 0), MILLION);
        CHECK.due("99 in, 99 won", x.chance(0, 4, 9), 99 * 99 * 100);
        CHECK.due("99 in, 99 won, twice", x.chance(0, 4, 4), 99 * 99 * 100 + 99 * 99);
    }

    /** "FAULTS by two FORCES. NONE." */
    private static void faultsNumbers() {
        CHECK.promise(12);
        TwoServes x = Courts.with(0, 0, 5, 5);
        CHECK.due("0, 0", x.faults(0, 0, 0), 5 * 5);
        CHECK.due("9, 9", x.faults(0, 9, 9), 59 * 59);
        CHECK.due("0, 9", x.faults(0, 0, 9), 5 * 59);
        for (int n : new int[] {-1, 10, LOW, HIGH}) {
            TWINS.refused("a " + n, NONE, y -> y.faults(3, n, 0));
            TWINS.refused("b " + n, NONE, y -> y.faults(3, 0, n));
        }
        for (int server : new int[] {-1, 4, LOW, HIGH}) {
            TWINS.refused("SERVER " + server, NONE, y -> y.faults(server, 0, 0));
        }
        CHECK.due("the next SERVER", x.faults(1, 0, 0), NONE);
        TWINS.asked("faults(3, 9, 0)", y -> y.faults(3, 9, 0));
    }

    /** "(of ten thousand)" */
    private static void faultsEnds() {
        CHECK.promise(12);
        TwoServes x = on("in 5 f=0;out 41 f=9;in 4 f=1;in 6 f=1;out 34 f=8;out 12 f=8", 0, 5, 5);
        CHECK.due("never in", x.faults(0, 9, 9), 10000);
        CHECK.due("always in", x.faults(0, 0, 9), 0);
        CHECK.due("always in at last", x.faults(0, 9, 0), 0);
        CHECK.due("one of a hundred in, twice", x.faults(0, 8, 8), 99 * 99);
        CHECK.due("one of a hundred out, twice", x.faults(0, 1, 1), 1);
    }

    /** "NONE; BAD: draws": DRAWS "0 .. 99 each". */
    private static void playNumbers() {
        CHECK.promise(13);
        CHECK.due("0, 0", Courts.with(0, 0, 5, 5).play(0, 0, 0), 1);
        CHECK.due("99, 99", Courts.with(0, 0, 5, 5).play(0, 99, 99), 0);
        CHECK.due("0, 99", Courts.with(0, 0, 5, 5).play(0, 0, 99), 0);
        CHECK.due("99, 0: 99 is not below 65", Courts.with(0, 0, 5, 5).play(0, 99, 0), 0);
        for (int n : new int[] {-1, 100, LOW, HIGH}) {
            TWINS.refused("d " + n, BAD, x -> x.play(3, n, 0));
            TWINS.refused("e " + n, BAD, x -> x.play(3, 0, n));
        }
        for (int server : new int[] {-1, 4, LOW, HIGH}) {
            TWINS.refused("SERVER " + server, NONE, x -> x.play(server, 0, 0));
        }
    }

    /** NONE, then BAD, then STATE. */
    private static void playFirstWord() {
        CHECK.promise(13);
        TwoServes x = Courts.with(0, 0, 5, 5);
        CHECK.due("nobody, and d", x.play(1, 100, 0), NONE);
        CHECK.due("nobody, and e", x.play(-1, 0, -1), NONE);
        x.score(4, 0);
        CHECK.due("nobody, and over", x.play(1, 0, 0), NONE);
        CHECK.due("d, and over", x.play(0, 100, 0), BAD);
        CHECK.due("e, and over", x.play(0, 0, -1), BAD);
        CHECK.due("all", x.play(4, 100, 100), NONE);
    }

    /** "THE GAME is over, if WON or LOST is 4.": "STATE: THE GAME is over." */
    private static void playOver() {
        CHECK.promise(13);
        TwoServes x = Courts.with(0, 0, 5, 5);
        x.score(3, 3);
        CHECK.due("not at 3, 3", x.play(0, 0, 0), 1);
        CHECK.due("at 4, 3", x.play(0, 0, 0), STATE);
        x.score(3, 3);
        CHECK.due("not at 3, 3", x.play(0, 0, 99), 0);
        CHECK.due("at 3, 4", x.play(0, 0, 0), STATE);
        x.score(0, 0);
        for (int n = 1; n <= 4; n++) {
            CHECK.due("from 0 on", x.play(0, 0, 99), 0);
            CHECK.due("LOST", x.told(1), n);
        }
        CHECK.due("at 0, 4", x.play(0, 0, 0), STATE);
        TWINS.refused("over at 4, 1", () -> over(4, 1), STATE, y -> y.play(3, 0, 0));
        TWINS.refused("over at 0, 4", () -> over(0, 4), STATE, y -> y.play(3, 0, 0));
    }

    private static TwoServes over(int won, int lost) {
        TwoServes x = Twins.scene();
        x.score(won, lost);
        return x;
    }

    private static void point(String court, int hard, int soft, int d, int e, int due) {
        TwoServes x = court.isEmpty() ? Courts.with(0, 0, hard, soft) : on(court, 0, hard, soft);
        CHECK.due("play of " + d + ", " + e + " on '" + court + "'", x.play(0, d, e), due);
        CHECK.due("WON", x.told(0), due);
        CHECK.due("LOST", x.told(1), 1 - due);
        CHECK.due("SERVED", x.of(0, 4), 1);
    }

    /** "if d is below IN of FIRST, it is won, if e is below WINS of FIRST, else lost" */
    private static void playFirstServe() {
        CHECK.promise(13);
        // 9 is in below 41 and wins below 85, 0 is in below 95 and wins below 40
        point("", 9, 0, 40, 84, 1);
        point("", 9, 0, 40, 85, 0);
        point("", 9, 0, 41, 84, 1);
        point("", 0, 9, 94, 39, 1);
        point("", 0, 9, 94, 40, 0);
        point("in 5 f=0;win 60 f=0", 0, 9, 99, 99, 1);
        point("in 4 f=0;win 60 f=0", 0, 9, 99, 99, 0);
        point("in 5 f=0;win 59 f=0", 0, 9, 99, 99, 0);
        point("in 5 f=0;win 59 f=0", 0, 9, 99, 98, 1);
        point("out 41 f=9", 9, 9, 0, 0, 0);
        point("out 40 f=9", 9, 9, 0, 0, 1);
    }

    /** "else, if e is below IN of SECOND, it is won, if d and e .. are below WINS of SECOND, else lost; else it is lost" */
    private static void playSecondServe() {
        CHECK.promise(13);
        String never = "out 41 f=9";
        // 5 is in below 65 and wins below 65
        point(never, 9, 5, 0, 64, 1);
        point(never, 9, 5, 1, 64, 0);
        point(never, 9, 5, 64, 0, 1);
        point(never, 9, 5, 65, 0, 0);
        point(never, 9, 5, 40, 64, 1);
        point(never, 9, 5, 40, 65, 0);
        point(never, 9, 9, 50, 50, 0);
        point(never + ";in 35 f=5;win 35 f=5", 9, 5, 99, 99, 1);
        point(never + ";in 34 f=5;win 35 f=5", 9, 5, 99, 99, 0);
        point(never + ";in 34 f=5;win 35 f=5", 9, 5, 99, 98, 1);
        point(never + ";out 65 f=5", 9, 5, 0, 0, 0);
        point(never + ";out 64 f=5", 9, 5, 0, 0, 1);
    }

    /** "d and e, together, modulo 100" */
    private static void playModulo() {
        CHECK.promise(13);
        String never = "out 41 f=9;in 35 f=5;win 34 f=5";
        // 5 is always in and wins below 99
        point(never, 9, 5, 99, 0, 0);
        point(never, 9, 5, 49, 50, 0);
        point(never, 9, 5, 50, 50, 1);
        point(never, 9, 5, 99, 1, 1);
        point(never, 9, 5, 98, 0, 1);
        point(never, 9, 5, 99, 99, 1);
        point("out 41 f=9;in 35 f=5;win 33 f=5", 9, 5, 99, 99, 0);
        point("out 41 f=9;in 35 f=5;win 33 f=5", 9, 5, 99, 98, 1);
    }

    /** "SERVED 1 more", "9999 at most" */
    private static void playServed() {
        CHECK.promise(13);
        TwoServes x = Courts.with(6, 0, 5, 5);
        x.server(0, 0, 5, 5);
        x.row(0, 3, 9);
        x.set(0, 2, 9998);
        CHECK.due("0 is in at 94", x.play(0, 94, 0), 1);
        CHECK.due("9999", x.of(0, 4), 9999);
        CHECK.due("9 is in at 40 and wins at 84", x.play(0, 40, 84), 1);
        CHECK.due("9999 at most", x.of(0, 4), 9999);
        CHECK.due("so it is 9 again", x.play(0, 40, 84), 1);
        CHECK.due("9999 at most", x.of(0, 4), 9999);
        CHECK.due("the other SERVED nothing", x.of(1, 4), 0);
        CHECK.due("a lost one", x.play(1, 0, 99), 0);
        CHECK.due("is SERVED too", x.of(1, 4), 1);
    }

    /** "BEST: what 0 which, 1 CHANCE. NONE." */
    private static void best() {
        CHECK.promise(14);
        for (int what : new int[] {-1, 2, LOW, HIGH}) {
            TWINS.refused("what " + what, NONE, x -> x.best(3, what));
        }
        for (int server : new int[] {-1, 4, LOW, HIGH}) {
            TWINS.refused("SERVER " + server, NONE, x -> x.best(server, 0));
        }
        CHECK.due("the next SERVER", Courts.with(0, 0, 5, 5).best(1, 1), NONE);
        TWINS.asked("best(3, 0)", x -> x.best(3, 0));
        TWINS.asked("best(3, 1)", x -> x.best(3, 1));
    }

    /** "of several those with the least a, then the least b", and the ends 0, 0 and 9, 9. */
    private static void bestTies() {
        CHECK.promise(14);
        TwoServes none = on("out 99 f<9|f=9", 0, 5, 5);
        CHECK.due("never in: 0, 0", none.best(0, 0), 0);
        CHECK.due("CHANCE 0", none.best(0, 1), 0);
        CHECK.due("9, 9", on("out 99 f<9", 0, 5, 5).best(0, 0), 99);
        CHECK.due("0, 0", on("out 99 f>0", 0, 5, 5).best(0, 0), 0);
        TwoServes always = on("in 99 f=7|f=9;win 99 f=7|f=9", 0, 5, 5);
        CHECK.due("7 or 9 always: 7, and the second is as it may be", always.best(0, 0), 70);
        CHECK.due("a million", always.best(0, 1), MILLION);
        // 3 and 4 are in by 50 and win by 80, all others never are in
        TwoServes two = on("out 99 f<3|f>4;out 27 f=3;out 21 f=4;win 25 f=3;win 20 f=4", 0, 5, 5);
        CHECK.due("of 33, 34, 43, 44 the least", two.best(0, 0), 33);
        CHECK.due("its CHANCE", two.best(0, 1), 50 * 80 * 100 + 50 * 50 * 80);
    }

    /** "the least FORCE b by which FAULTS by FIRST, b are above those by FIRST, SECOND (-5: none)." */
    private static void risk() {
        CHECK.promise(15);
        CHECK.due("SECOND 8: 9 alone is above", Courts.with(0, 0, 5, 8).risk(0), 9);
        CHECK.due("SECOND 9: none", Courts.with(0, 0, 5, 9).risk(0), NONE_FOUND);
        CHECK.due("SECOND 0: 1", Courts.with(0, 0, 5, 0).risk(0), 1);
        CHECK.due("as often is not above", on("in 6 f=6", 0, 5, 5).risk(0), 7);
        CHECK.due("1 more is", on("in 5 f=6", 0, 5, 5).risk(0), 6);
        CHECK.due("0 is the least", on("out 31 f=0", 0, 5, 5).risk(0), 0);
        CHECK.due("FIRST is always in: none", on("in 5 f=0", 0, 0, 0).risk(0), NONE_FOUND);
        CHECK.due("FIRST is almost always in", on("in 4 f=0", 0, 0, 1).risk(0), 2);
        for (int server : new int[] {-1, 4, LOW, HIGH}) {
            TWINS.refused("SERVER " + server, NONE, x -> x.risk(server));
        }
        CHECK.due("the next SERVER", Courts.with(0, 0, 5, 5).risk(1), NONE);
        TWINS.asked("risk(3)", x -> x.risk(3));
    }

    /** "CHANCE by FIRST, FIRST, less that by FIRST, SECOND (may be below 0)": "-1000001: NONE" is below all of them. */
    private static void dare() {
        CHECK.promise(16);
        CHECK.due("the least", on("out 41 f=9;in 5 f=0;win 60 f=0", 0, 9, 0).dare(0), -MILLION);
        CHECK.due("none", on("out 41 f=9;in 5 f=0;win 60 f=0", 0, 0, 9).dare(0), 0);
        CHECK.due("FIRST is SECOND", Courts.with(0, 0, 7, 7).dare(0), 0);
        CHECK.due("1 of 100 the first time, then never", on("out 40 f=9;win 15 f=9;out 95 f=0", 0, 9, 0).dare(0), 99 * 100);
        for (int server : new int[] {-1, 4, LOW, HIGH}) {
            TWINS.refused("SERVER " + server, NO_DIFFERENCE, x -> x.dare(server));
        }
        CHECK.due("the next SERVER", Courts.with(0, 0, 5, 5).dare(1), NO_DIFFERENCE);
        TWINS.asked("dare(3)", x -> x.dare(3));
    }

    /** "MORE (what 0), FRESH (1). -1000001: NONE." */
    private static void more() {
        CHECK.promise(17);
        for (int what : new int[] {-1, 2, LOW, HIGH}) {
            TWINS.refused("what " + what, NO_DIFFERENCE, x -> x.more(3, what));
        }
        for (int server : new int[] {-1, 4, LOW, HIGH}) {
            TWINS.refused("SERVER " + server, NO_DIFFERENCE, x -> x.more(server, 0));
        }
        CHECK.due("the next SERVER", Courts.with(0, 0, 5, 5).more(1, 0), NO_DIFFERENCE);
        for (int server = 0; server < 4; server++) {
            int one = server;
            TWINS.asked("more(" + one + ", 0)", x -> x.more(one, 0));
            TWINS.asked("more(" + one + ", 1)", x -> x.more(one, 1));
        }
        TwoServes least = on("in 35 f=5;win 35 f=5;out 99 f=6", 0, 5, 5);
        CHECK.due("the least, far below 0", least.more(0, 0), -MILLION);
        CHECK.due("the most", on("in 35 f=5;win 35 f=5;out 99 f=4", 0, 4, 4).more(0, 0), MILLION);
    }

    /** "were HARD, SOFT 1 more each (9 at most)" */
    private static void moreNineAtMost() {
        CHECK.promise(17);
        CHECK.due("9, 9", Courts.with(0, 0, 9, 9).more(0, 0), 0);
        int eights = 47 * 80 * 100 + 53 * 47 * 80;
        int nines = 41 * 85 * 100 + 59 * 41 * 85;
        CHECK.due("8, 8", Courts.with(0, 0, 8, 8).more(0, 0), nines - eights);
        CHECK.due("9, 8", Courts.with(0, 0, 9, 8).more(0, 0), nines - (41 * 85 * 100 + 59 * 47 * 80));
        CHECK.due("8, 9", Courts.with(0, 0, 8, 9).more(0, 0), nines - (47 * 80 * 100 + 53 * 41 * 85));
        CHECK.due("DARING at 9", Courts.with(1, 0, 9, 0).more(0, 0), 0);
        CHECK.due("TIMID at 9", Courts.with(2, 0, 0, 9).more(0, 0), 0);
        CHECK.due("TIMID at 8", Courts.with(2, 0, 9, 8).more(0, 0), nines - eights);
        TwoServes tired = Courts.with(3, 0, 9, 9);
        tired.set(0, 2, 20);
        CHECK.due("TIRING: HARD is 9 at most, not FIRST", tired.more(0, 0), 0);
        tired.set(0, 0, 0);
        tired.set(0, 2, 40);
        CHECK.due("TIRING: 1 less 2 is 0 as 0 less 2 is", tired.more(0, 0), 0);
        tired.set(0, 2, 19);
        CHECK.due("TIRING: 1 for 0", tired.more(0, 0), 89 * 45 * 100 + 11 * 41 * 85 - (95 * 40 * 100 + 5 * 41 * 85));
    }

    /** "FRESH of one: likewise, were SERVED 0." */
    private static void fresh() {
        CHECK.promise(17);
        TwoServes x = Courts.with(3, 0, 1, 9);
        CHECK.due("SERVED is 0", x.more(0, 1), 0);
        x.set(0, 2, 19);
        CHECK.due("not tired", x.more(0, 1), 0);
        x.set(0, 2, 20);
        int one = 89 * 45 * 100 + 11 * 41 * 85;
        int none = 95 * 40 * 100 + 5 * 41 * 85;
        CHECK.due("tired by 1", x.more(0, 1), one - none);
        x.set(0, 2, 9999);
        CHECK.due("0 at least", x.more(0, 1), one - none);
        TwoServes told = on("in 5 f=0;win 60 f=0;out 41 f=9", 6, 9, 9);
        told.row(0, 0, 9);
        told.set(0, 2, 3);
        CHECK.due("the least", told.more(0, 1), -MILLION);
        told.set(0, 2, 4);
        CHECK.due("modulo 4 the same", told.more(0, 1), 0);
        told.set(0, 2, 0);
        told.row(0, 0, 0);
        told.row(0, 1, 9);
        told.set(0, 2, 1);
        CHECK.due("the most", told.more(0, 1), MILLION);
    }

    /** "the greatest FORCE of which IN is q or more (-5: none)", q 0 .. 100: "NONE; BAD: q." */
    private static void safe() {
        CHECK.promise(18);
        TwoServes x = on("in 5 f=0;out 41 f=9", 0, 5, 5);
        CHECK.due("q 0: 9, which is never in", x.safe(0, 0), 9);
        CHECK.due("q 1", x.safe(0, 1), 8);
        CHECK.due("q 47, which 8 has", x.safe(0, 47), 8);
        CHECK.due("q 48, which 8 has not", x.safe(0, 48), 7);
        CHECK.due("q 89, which 1 has", x.safe(0, 89), 1);
        CHECK.due("q 90, which 1 has not", x.safe(0, 90), 0);
        CHECK.due("q 100, which 0 has", x.safe(0, 100), 0);
        CHECK.due("q 100 by none", on("in 4 f=0", 0, 5, 5).safe(0, 100), NONE_FOUND);
        CHECK.due("q 96 by none", Courts.with(0, 0, 5, 5).safe(0, 96), NONE_FOUND);
        for (int q : new int[] {-1, 101, LOW, HIGH}) {
            TWINS.refused("q " + q, BAD, y -> y.safe(3, q));
            CHECK.due("NONE ahead of BAD", x.safe(1, q), NONE);
        }
        for (int server : new int[] {-1, 4, LOW, HIGH}) {
            TWINS.refused("SERVER " + server, NONE, y -> y.safe(server, 50));
        }
        TWINS.asked("safe(3, 50)", y -> y.safe(3, 50));
    }

    /** "the STANCE by which CHANCE .. is least (of several the first); that CHANCE", whatever the STANCE is. */
    private static void stand() {
        CHECK.promise(19);
        int[][] atFirst = {{0, 0}, {1, 1}, {2, 2}};
        for (int[] s : atFirst) {
            TwoServes x = on("in 5 s=" + s[0] + ";in 9 s>9", 0, 5, 5);
            x.stance(s[1]);
            CHECK.due("best for the server at " + s[0] + ": the first of the others", x.stand(0, 0), s[0] == 0 ? 1 : 0);
            TwoServes y = on("out 5 s=" + s[0], 0, 5, 5);
            y.stance(s[1]);
            CHECK.due("worst for the server", y.stand(0, 0), s[0]);
            CHECK.due("its CHANCE", y.stand(0, 1), 60 * 65 * 100 + 40 * 60 * 65);
        }
        CHECK.due("all alike", Courts.with(0, 0, 5, 5).stand(0, 0), 0);
        CHECK.due("all but 0 alike", on("out 5 s>0", 0, 5, 5).stand(0, 0), 1);
        CHECK.due("0 and 2 alike", on("out 5 !s=1", 0, 5, 5).stand(0, 0), 0);
        CHECK.due("CHANCE 0", on("out 65 s=2", 0, 5, 5).stand(0, 1), 0);
        CHECK.due("there is no STANCE above 2", on("out 65 s>2", 0, 5, 5).stand(0, 0), 0);
        for (int what : new int[] {-1, 2, LOW, HIGH}) {
            TWINS.refused("what " + what, NONE, x -> x.stand(3, what));
        }
        for (int server : new int[] {-1, 4, LOW, HIGH}) {
            TWINS.refused("SERVER " + server, NONE, x -> x.stand(server, 0));
        }
        CHECK.due("the next SERVER", Courts.with(0, 0, 5, 5).stand(1, 0), NONE);
        TWINS.asked("stand(3, 0)", x -> x.stand(3, 0));
        TWINS.asked("stand(3, 1)", x -> x.stand(3, 1));
    }

    /** "GAME (what 0), CLEAN (1). NONE." */
    private static void gameNumbers() {
        CHECK.promise(20);
        for (int what : new int[] {-1, 2, LOW, HIGH}) {
            TWINS.refused("what " + what, NONE, x -> x.game(3, what));
        }
        for (int server : new int[] {-1, 4, LOW, HIGH}) {
            TWINS.refused("SERVER " + server, NONE, x -> x.game(server, 0));
        }
        CHECK.due("the next SERVER", Courts.with(0, 0, 5, 5).game(1, 0), NONE);
        TWINS.asked("game(3, 0)", x -> x.game(3, 0));
        TWINS.asked("game(3, 1)", x -> x.game(3, 1));
    }

    /** "1000000, if WON is 4; else 0, if LOST is 4": at each of these, and not at 3; CLEAN does not mind. */
    private static void gameOver() {
        CHECK.promise(20);
        TwoServes x = Courts.with(0, 0, 8, 2);
        int clean = x.game(0, 1);
        int p = 47 * 80 * 100 + 53 * 83 * 50;
        for (int other = 0; other < 4; other++) {
            x.score(4, other);
            CHECK.due("4, " + other, x.game(0, 0), MILLION);
            CHECK.due("CLEAN", x.game(0, 1), clean);
            x.score(other, 4);
            CHECK.due(other + ", 4", x.game(0, 0), 0);
            CHECK.due("CLEAN", x.game(0, 1), clean);
        }
        x.score(3, 3);
        CHECK.due("3, 3", x.game(0, 0), p);
        x.score(0, 0);
        CHECK.due("GAME is CLEAN at 0, 0", x.game(0, 0), clean);
        CHECK.due("always won", on("in 35 f=5;win 35 f=5", 0, 5, 5).game(0, 1), MILLION);
        CHECK.due("never won", on("out 65 f=5", 0, 5, 5).game(0, 1), 0);
    }

    /** "by 1000000, cut": at each step, not at the end. */
    private static void gameCut() {
        CHECK.promise(20);
        TwoServes x = Courts.with(0, 0, 8, 2);
        long p = 595950;
        // 595950 * 595950 = 355156402500
        x.score(2, 3);
        CHECK.due("355156.4 is cut", x.game(0, 0), 355156);
        x.score(1, 3);
        CHECK.due("of what was cut: 595950 * 355156 = 211655218200", x.game(0, 0), 211655);
        x.score(0, 3);
        CHECK.due("595950 * 211655 = 126135797250", x.game(0, 0), 126135);
        // 404050 * 404050 = 163256402500: 836743.5975 is cut, though 163256.4 is the rest
        x.score(3, 2);
        CHECK.due("836743.6 is cut", x.game(0, 0), (p * MILLION + (MILLION - p) * p) / MILLION);
        CHECK.due("which is", x.game(0, 0), 836743);
    }

    /** "(all by WON, LOST as they are in each; SERVED as now)" */
    private static void gameBySituation() {
        CHECK.promise(20);
        TwoServes x = on("in 35 w=3&f=5;win 35 w=3&f=5;out 65 w=2&f=5", 0, 5, 5);
        x.score(3, 0);
        CHECK.due("always from 3 on", x.game(0, 0), MILLION);
        x.score(2, 0);
        CHECK.due("never from 2 on", x.game(0, 0), 0);
        x.score(1, 0);
        CHECK.due("so never from 1 on", x.game(0, 0), 0);
        TwoServes l = on("in 35 l=3&f=5;win 35 l=3&f=5;out 65 l<3", 0, 5, 5);
        CHECK.due("lost until LOST is 3, then always won", l.game(0, 1), MILLION);
        TwoServes told = on("in 35 f=5;win 35 f=5;out 99 f=0", 6, 9, 0);
        told.row(0, 1, 5);
        told.set(0, 2, 1);
        CHECK.due("SERVED as now: always by 5", told.game(0, 1), MILLION);
        told.set(0, 2, 2);
        CHECK.due("SERVED as now: never by 0", told.game(0, 1), 0);
    }

    /** "GAME with 1 more WON, less GAME with 1 more LOST (0, if THE GAME is over)": "-1000001: NONE." */
    private static void swing() {
        CHECK.promise(21);
        TwoServes x = Courts.with(0, 0, 8, 2);
        x.score(3, 3);
        CHECK.due("at 3, 3", x.swing(0), MILLION);
        x.score(3, 0);
        int ahead = x.swing(0);
        x.score(3, 1);
        CHECK.due("at 3, 0: all but GAME at 3, 1", ahead, MILLION - x.game(0, 0));
        x.score(1, 3);
        int behind = x.swing(0);
        x.score(2, 3);
        CHECK.due("at 1, 3: GAME at 2, 3", behind, x.game(0, 0));
        for (int other = 0; other < 4; other++) {
            x.score(4, other);
            CHECK.due("over at 4, " + other, x.swing(0), 0);
            x.score(other, 4);
            CHECK.due("over at " + other + ", 4", x.swing(0), 0);
        }
        CHECK.due("nobody, and over", x.swing(1), NO_DIFFERENCE);
        for (int server : new int[] {-1, 4, LOW, HIGH}) {
            TWINS.refused("SERVER " + server, NO_DIFFERENCE, y -> y.swing(server));
        }
        TWINS.asked("swing(3)", y -> y.swing(3));
    }

    /** "MATCH of two SERVERS to n GAMES (1 .. 4)", "1000000, if the first has n GAMES; else 0, if the second has n" */
    private static void match() {
        CHECK.promise(22);
        TwoServes x = strongAndWeak();
        CHECK.due("the strong one wins its GAMES", x.game(0, 1), MILLION);
        CHECK.due("the weak one loses its GAMES", x.game(1, 1), 0);
        for (int n = 1; n <= 4; n++) {
            CHECK.due("the strong one to " + n, x.match(0, 1, n), MILLION);
            CHECK.due("the weak one to " + n, x.match(1, 0, n), 0);
        }
        Courts.court(x, "in 99 f=5;win 99 f=5");
        for (int n = 1; n <= 4; n++) {
            CHECK.due("whoever serves wins: the first to " + n, x.match(0, 1, n), MILLION);
            CHECK.due("the other first, to " + n, x.match(1, 0, n), MILLION);
        }
        Courts.court(x, "out 99 f=5");
        CHECK.due("whoever serves loses, to 1", x.match(0, 1, 1), 0);
        CHECK.due("to 2: 0, 1, then 1, 1, then 1, 2", x.match(0, 1, 2), 0);
        CHECK.due("to 4", x.match(0, 1, 4), 0);
        for (int n : new int[] {0, -1, 5, LOW, HIGH}) {
            TWINS.refused("to " + n, BAD, y -> y.match(2, 3, n));
        }
        for (int server : new int[] {-1, 4, LOW, HIGH}) {
            TWINS.refused("the first " + server, NONE, y -> y.match(server, 1, 1));
            TWINS.refused("the second " + server, NONE, y -> y.match(1, server, 1));
        }
        for (int server = 0; server < 4; server++) {
            int both = server;
            TWINS.refused("both " + server, BAD, y -> y.match(both, both, 1));
        }
        TWINS.asked("match(3, 2, 4)", y -> y.match(3, 2, 4));
    }

    private static TwoServes strongAndWeak() {
        TwoServes x = Courts.with(0, 0, 5, 5);
        x.server(0, 0, 5, 5);
        Courts.court(x, "in 99 p=0;win 99 p=0;out 99 p=1");
        return x;
    }

    /** NONE, then BAD. */
    private static void matchFirstWord() {
        CHECK.promise(22);
        TwoServes x = strongAndWeak();
        CHECK.due("nobody first, and n", x.match(2, 0, 0), NONE);
        CHECK.due("nobody second, and n", x.match(0, 2, 5), NONE);
        CHECK.due("nobody is both", x.match(3, 3, 1), NONE);
        CHECK.due("-1 is both", x.match(-1, -1, 1), NONE);
        CHECK.due("one is both, and n", x.match(1, 1, 0), BAD);
    }

    /** "by turns, a GAME each, the first one first", "by 1000000, cut" */
    private static void matchCut() {
        CHECK.promise(22);
        TwoServes x = Courts.with(0, 0, 8, 2);
        x.server(2, 0, 8, 3);
        long one = x.game(0, 1);
        long less = MILLION - x.game(1, 1);
        CHECK.due("to 1", x.match(0, 1, 1), one);
        // 0, 0: the first serves; 1, 0 and 0, 1: the second; 1, 1: the first again
        long won = (less * MILLION + (MILLION - less) * one) / MILLION;
        long lost = less * one / MILLION;
        CHECK.due("to 2", x.match(0, 1, 2), (one * won + (MILLION - one) * lost) / MILLION);
        CHECK.that("something was cut", less * one % MILLION != 0);
        x.score(3, 2);
        CHECK.due("by CLEAN, at whatever score", x.match(0, 1, 1), one);
        x.score(0, 4);
        CHECK.due("and when THE GAME is over", x.match(0, 1, 1), one);
    }

    /** "MATCH of the first and the second, less (1000000 less MATCH of the second and the first)" */
    private static void ahead() {
        CHECK.promise(23);
        TwoServes x = strongAndWeak();
        for (int n = 1; n <= 4; n++) {
            CHECK.due("no help to the strong, to " + n, x.ahead(0, 1, n), 0);
            CHECK.due("nor to the weak, to " + n, x.ahead(1, 0, n), 0);
        }
        Courts.court(x, "win 1 p=0&w=0;out 1 p=1&l=0");
        for (int n = 1; n <= 4; n++) {
            int due = x.match(0, 1, n) - (MILLION - x.match(1, 0, n));
            CHECK.due("in between, to " + n, x.ahead(0, 1, n), due);
            CHECK.due("as much for the other, to " + n, x.ahead(1, 0, n), due);
        }
        CHECK.due("to 1 by CLEAN of both", x.ahead(0, 1, 1), x.game(0, 1) - (MILLION - x.game(1, 1)));
        Courts.court(x, "in 99 f=5;win 99 f=5");
        CHECK.due("whoever serves wins", x.ahead(0, 1, 1), MILLION);
        CHECK.due("to 4", x.ahead(1, 0, 4), MILLION);
        Courts.court(x, "out 99 f=5");
        CHECK.due("whoever serves loses", x.ahead(0, 1, 1), -MILLION);
        CHECK.due("to 4", x.ahead(1, 0, 4), -MILLION);
        for (int n : new int[] {0, -1, 5, LOW, HIGH}) {
            TWINS.refused("to " + n, BAD_DIFFERENCE, y -> y.ahead(2, 3, n));
        }
        for (int server : new int[] {-1, 4, LOW, HIGH}) {
            TWINS.refused("the first " + server, NO_DIFFERENCE, y -> y.ahead(server, 1, 1));
            TWINS.refused("the second " + server, NO_DIFFERENCE, y -> y.ahead(1, server, 1));
        }
        for (int server = 0; server < 4; server++) {
            int both = server;
            TWINS.refused("both " + server, BAD_DIFFERENCE, y -> y.ahead(both, both, 1));
        }
        TWINS.asked("ahead(3, 2, 4)", y -> y.ahead(3, 2, 4));
    }

    /** "-1000001: NONE; -1000002: BAD: one is both, n." */
    private static void aheadFirstWord() {
        CHECK.promise(23);
        TwoServes x = strongAndWeak();
        CHECK.due("nobody first, and n", x.ahead(2, 0, 0), NO_DIFFERENCE);
        CHECK.due("nobody second, and n", x.ahead(0, 2, 5), NO_DIFFERENCE);
        CHECK.due("nobody is both", x.ahead(3, 3, 1), NO_DIFFERENCE);
        CHECK.due("-1 is both", x.ahead(-1, -1, 1), NO_DIFFERENCE);
        CHECK.due("one is both, and n", x.ahead(1, 1, 0), BAD_DIFFERENCE);
    }
}
