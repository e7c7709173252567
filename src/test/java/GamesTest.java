/** Promises 20 to 23: games, matches, told again by plain recursion from the document's words. */
public final class GamesTest {
    private static final Check CHECK = new Check("games, matches");
    private static final int LOW = Integer.MIN_VALUE, HIGH = Integer.MAX_VALUE;
    private static final int NO_DIFFERENCE = -1000001, BAD_DIFFERENCE = -1000002;
    private static final long MILLION = 1000000;

    private GamesTest() {
    }

    public static void main(String[] args) {
        gameByHand();
        game();
        gameOfKinds();
        swing();
        match();
        ahead();
        CHECK.end();
    }

    private static void gameByHand() {
        CHECK.promise(20);
        TwoServes x = Courts.with(0, 0, 8, 2);
        int p = 47 * 80 * 100 + 53 * 83 * 50;
        x.score(3, 3);
        CHECK.due("one point", x.game(0, 0), p);
        x.score(3, 2);
        CHECK.due("two points, cut", x.game(0, 0), (p * MILLION + (MILLION - p) * p) / MILLION);
        x.score(2, 3);
        CHECK.due("both are needed", x.game(0, 0), (long) p * p / MILLION);
        x.score(4, 3);
        CHECK.due("WON is 4", x.game(0, 0), 1000000);
        x.score(0, 4);
        CHECK.due("LOST is 4", x.game(0, 0), 0);
        for (int what : new int[] {-1, 2, LOW, HIGH}) {
            CHECK.due("game(0, " + what + ")", x.game(0, what), -1);
        }
        for (int server : new int[] {-1, 1, LOW, HIGH}) {
            CHECK.due("nobody", x.game(server, 1), -1);
        }
    }

    private static void game() {
        CHECK.promise(20);
        for (int kind = 0; kind < 7; kind++) {
            for (int won = 4; won >= 0; won--) {
                for (int lost = 4; lost >= 0; lost--) {
                    TwoServes x = ofKind(kind);
                    if (x.score(won, lost) == 1) {
                        String name = " at " + won + ", " + lost + " of KIND " + kind;
                        CHECK.due("GAME" + name, x.game(0, 0), game(ofKind(kind), won, lost));
                        CHECK.due("CLEAN" + name, x.game(0, 1), game(ofKind(kind), 0, 0));
                        CHECK.due("WON stays", x.told(0), won);
                        CHECK.due("LOST stays", x.told(1), lost);
                    }
                }
            }
        }
    }

    private static TwoServes ofKind(int kind) {
        TwoServes x = Courts.with(kind, 4, 8, 2);
        Courts.court(x, "win 20 w>l|w=3;in 9 s=1&l>1;out 30 w=1&f>3;win 9 l=3;out 5 w<2");
        x.set(0, 2, 21);
        x.row(0, 1, 6);
        return x;
    }

    /** GAME by the document's words, with CHANCE as the object tells it at each WON, LOST. */
    private static long game(TwoServes x, int won, int lost) {
        if (won == 4) {
            return MILLION;
        }
        if (lost == 4) {
            return 0;
        }
        x.score(won, lost);
        long p = x.chance(0, x.of(0, 5), x.of(0, 6));
        return (p * game(x, won + 1, lost) + (MILLION - p) * game(x, won, lost + 1)) / MILLION;
    }

    private static void gameOfKinds() {
        CHECK.promise(20);
        TwoServes sure = Courts.with(5, 0, 8, 2);
        long soft = 83 * 50 * 100 + 17 * 83 * 50;
        long hard = 47 * 80 * 100 + 53 * 83 * 50;
        sure.score(2, 3);
        CHECK.due("SURE at 2, 3 and 3, 3", sure.game(0, 0), hard * hard / MILLION);
        sure.score(2, 2);
        long won = (hard * MILLION + (MILLION - hard) * hard) / MILLION;
        CHECK.due("SURE at 2, 2", sure.game(0, 0), (soft * won + (MILLION - soft) * (hard * hard / MILLION)) / MILLION);
        TwoServes tiring = Courts.with(3, 0, 8, 2);
        tiring.set(0, 2, 19);
        tiring.score(2, 3);
        CHECK.due("SERVED as now", tiring.game(0, 0), hard * hard / MILLION);
    }

    private static void swing() {
        CHECK.promise(21);
        TwoServes x = ofKind(0);
        for (int won = 0; won < 4; won++) {
            for (int lost = 0; lost < 4; lost++) {
                long due = game(ofKind(0), won + 1, lost) - game(ofKind(0), won, lost + 1);
                x.score(won, lost);
                CHECK.due("SWING at " + won + ", " + lost, x.swing(0), due);
            }
        }
        x.score(3, 3);
        CHECK.due("all of it", x.swing(0), 1000000);
        x.score(4, 2);
        CHECK.due("over", x.swing(0), 0);
        x.score(1, 4);
        CHECK.due("over", x.swing(0), 0);
        TwoServes even = Courts.with(0, 0, 8, 2);
        Courts.court(even, "in 99 !(w=1&l=0);out 99 w=1&l=0;win 99 l=1");
        CHECK.due("either way it is 1, 1 next", even.swing(0), 0);
        for (int server : new int[] {-1, 1, LOW, HIGH}) {
            CHECK.due("nobody", x.swing(server), NO_DIFFERENCE);
        }
    }

    private static void match() {
        CHECK.promise(22);
        TwoServes x = pair();
        long one = x.game(0, 1);
        long other = x.game(1, 1);
        CHECK.due("one GAME", x.match(0, 1, 1), one);
        CHECK.due("one GAME, the other first", x.match(1, 0, 1), other);
        for (int n = 1; n <= 4; n++) {
            CHECK.due("MATCH to " + n, x.match(0, 1, n), match(one, other, 0, 0, n));
            CHECK.due("MATCH to " + n, x.match(1, 0, n), match(other, one, 0, 0, n));
        }
        x.score(3, 1);
        CHECK.due("by CLEAN, whatever the score", x.match(0, 1, 2), match(one, other, 0, 0, 2));
        for (int n : new int[] {0, -1, 5, LOW, HIGH}) {
            CHECK.due("to " + n, x.match(0, 1, n), -2);
            CHECK.due("NONE ahead of BAD", x.match(0, 2, n), -1);
        }
        CHECK.due("one is both", x.match(1, 1, 2), -2);
        CHECK.due("nobody is both", x.match(2, 2, 2), -1);
        CHECK.due("nobody first", x.match(-1, 1, 2), -1);
        CHECK.due("nobody second", x.match(0, 4, 2), -1);
    }

    private static TwoServes pair() {
        TwoServes x = Courts.with(0, 0, 8, 2);
        x.server(5, 0, 7, 4);
        Courts.court(x, "win 9 p=0;out 7 k=5&f>5");
        return x;
    }

    private static long match(long one, long other, int a, int b, int n) {
        if (a == n) {
            return MILLION;
        }
        if (b == n) {
            return 0;
        }
        long c = (a + b) % 2 == 0 ? one : MILLION - other;
        return (c * match(one, other, a + 1, b, n) + (MILLION - c) * match(one, other, a, b + 1, n)) / MILLION;
    }

    private static void ahead() {
        CHECK.promise(23);
        TwoServes x = pair();
        long one = x.game(0, 1);
        long other = x.game(1, 1);
        for (int n = 1; n <= 4; n++) {
            long begins = match(one, other, 0, 0, n);
            long waits = MILLION - match(other, one, 0, 0, n);
            CHECK.due("AHEAD to " + n, x.ahead(0, 1, n), begins - waits);
        }
        CHECK.due("to 1", x.ahead(1, 0, 1), other - (MILLION - one));
        for (int n : new int[] {0, -1, 5, LOW, HIGH}) {
            CHECK.due("to " + n, x.ahead(0, 1, n), BAD_DIFFERENCE);
            CHECK.due("NONE ahead of BAD", x.ahead(0, 2, n), NO_DIFFERENCE);
        }
        CHECK.due("one is both", x.ahead(0, 0, 2), BAD_DIFFERENCE);
        CHECK.due("nobody is both", x.ahead(2, 2, 2), NO_DIFFERENCE);
        CHECK.due("nobody first", x.ahead(-1, 1, 2), NO_DIFFERENCE);
        Courts.court(x, "out 99 f<9|f=9");
        CHECK.due("who serves loses: to begin is no help", x.ahead(0, 1, 1), -1000000);
    }
}
