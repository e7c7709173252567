/** Promises 11 to 19: points, forces, stances. Without a COURT IN is 95 - 6f and WINS 40 + 5f. */
public final class PointsForcesTest {
    private static final Check CHECK = new Check("points, forces, stances");
    private static final int LOW = Integer.MIN_VALUE, HIGH = Integer.MAX_VALUE;
    private static final int NO_DIFFERENCE = -1000001;

    private PointsForcesTest() {
    }

    public static void main(String[] args) {
        chance();
        faults();
        play();
        playKinds();
        best();
        risk();
        dare();
        more();
        fresh();
        safe();
        stand();
        CHECK.end();
    }

    private static void chance() {
        CHECK.promise(11);
        TwoServes x = Courts.with(4, 3, 0, 0);
        x.server(0, 3, 0, 0);
        for (int a = 0; a < 10; a++) {
            for (int b = 0; b < 10; b++) {
                CHECK.due("CHANCE " + a + ", " + b, x.chance(1, a, b), chance(a, b, 0));
                CHECK.due("of READ " + a + ", " + b, x.chance(0, a, b), chance(a, b, 3));
            }
        }
        CHECK.due("by hand", x.chance(1, 8, 2), 47 * 80 * 100 + 53 * 83 * 50);
        noForces(x, true);
        Courts.court(x, "in 99 f=1;win 99 f=1;out 99 f=2");
        CHECK.due("a million at most", x.chance(1, 1, 5), 1000000);
        CHECK.due("0 at least", x.chance(1, 2, 2), 0);
    }

    private static int chance(int a, int b, int less) {
        int in = 95 - 6 * a;
        return in * (40 + 5 * a - less) * 100 + (100 - in) * (95 - 6 * b) * (40 + 5 * b - less);
    }

    private static void noForces(TwoServes x, boolean chances) {
        int[][] wrong = {{-1, 0, 0}, {4, 0, 0}, {2, 0, 0}, {LOW, 0, 0}, {HIGH, 0, 0}, {0, -1, 0}, {0, 10, 0},
            {0, 0, -1}, {0, 0, 10}, {0, LOW, 0}, {0, 0, HIGH}};
        for (int[] w : wrong) {
            CHECK.due("of " + w[0] + ", " + w[1] + ", " + w[2],
                chances ? x.chance(w[0], w[1], w[2]) : x.faults(w[0], w[1], w[2]), -1);
        }
    }

    private static void faults() {
        CHECK.promise(12);
        TwoServes x = Courts.with(0, 0, 0, 0);
        x.server(4, 9, 0, 0);
        for (int a = 0; a < 10; a++) {
            for (int b = 0; b < 10; b++) {
                CHECK.due("FAULTS " + a + ", " + b, x.faults(a % 2, a, b), (5 + 6 * a) * (5 + 6 * b));
            }
        }
        noForces(x, false);
        Courts.court(x, "out 99 f=1;in 99 f=2");
        CHECK.due("ten thousand", x.faults(0, 1, 1), 10000);
        CHECK.due("none", x.faults(0, 1, 2), 0);
    }

    private static void play() {
        CHECK.promise(13);
        // FIRST 8: in below 47, won below 80; SECOND 2: in below 83, won below 50
        int[][] due = {{46, 79, 1}, {46, 80, 0}, {0, 99, 0}, {47, 82, 1}, {47, 3, 0}, {47, 2, 1}, {47, 52, 0},
            {47, 53, 1}, {47, 83, 0}, {99, 50, 1}, {99, 51, 0}, {99, 0, 0}, {60, 0, 0}, {60, 40, 1}};
        for (int[] row : due) {
            TwoServes x = Courts.with(0, 0, 8, 2);
            x.set(0, 2, 5);
            CHECK.due("play " + row[0] + ", " + row[1], x.play(0, row[0], row[1]), row[2]);
            CHECK.due("WON", x.told(0), row[2]);
            CHECK.due("LOST", x.told(1), 1 - row[2]);
            CHECK.due("SERVED", x.of(0, 4), 6);
        }
        TwoServes x = Courts.with(0, 0, 8, 2);
        for (int bad : new int[] {-1, 100, LOW, HIGH}) {
            CHECK.due("d " + bad, x.play(0, bad, 0), -2);
            CHECK.due("e " + bad, x.play(0, 0, bad), -2);
            CHECK.due("nobody, ahead of BAD", x.play(1, bad, bad), -1);
        }
        x.score(4, 3);
        CHECK.due("over, WON", x.play(0, 0, 0), -3);
        CHECK.due("BAD ahead of STATE", x.play(0, 100, 0), -2);
        CHECK.due("NONE ahead of STATE", x.play(-1, 0, 0), -1);
        x.score(0, 4);
        CHECK.due("over, LOST", x.play(0, 0, 0), -3);
        CHECK.due("nothing was served", x.of(0, 4), 0);
        x.score(3, 3);
        x.set(0, 2, 9999);
        CHECK.due("the last point", x.play(0, 0, 0), 1);
        CHECK.due("SERVED 9999 at most", x.of(0, 4), 9999);
        CHECK.due("WON 4", x.told(0), 4);
    }

    private static void playKinds() {
        CHECK.promise(13);
        // TIRING: FIRST is 1 until 20 are SERVED, then 0: in below 89, then below 95
        TwoServes tiring = Courts.with(3, 0, 1, 9);
        tiring.set(0, 2, 19);
        CHECK.due("89 is out of 1, and 41 of 9", tiring.play(0, 89, 41), 0);
        CHECK.due("89 is in by 0, and won below 40", tiring.play(0, 89, 39), 1);
        // TOLD: each point its own force: 9 is in below 41, 0 below 95
        TwoServes told = Courts.with(6, 0, 0, 9);
        told.row(0, 0, 9);
        CHECK.due("by 9", told.play(0, 40, 84), 1);
        CHECK.due("by 0", told.play(0, 94, 40), 0);
        CHECK.due("the clauses see WON as it was ahead of the point", wonInPoint(), 1);
        // READ: 7 less wins, of the second one too
        TwoServes read = Courts.with(4, 7, 0, 5);
        CHECK.due("won below 33", read.play(0, 0, 33), 0);
        CHECK.due("as told", read.play(0, 0, 32), 1);
    }

    private static int wonInPoint() {
        TwoServes x = Courts.with(0, 0, 9, 9);
        Courts.court(x, "in 99 w=0;win 99 w=0;out 99 w=1");
        return x.play(0, 99, 99) == 1 && x.play(0, 0, 0) == 0 ? 1 : 0;
    }

    private static void best() {
        CHECK.promise(14);
        TwoServes x = Courts.with(0, 0, 0, 0);
        int greatest = 0;
        int which = 0;
        for (int a = 0; a < 10; a++) {
            for (int b = 0; b < 10; b++) {
                if (chance(a, b, 0) > greatest) {
                    greatest = chance(a, b, 0);
                    which = 10 * a + b;
                }
            }
        }
        CHECK.due("BEST", x.best(0, 0), which);
        CHECK.due("its CHANCE", x.best(0, 1), greatest);
        for (int what : new int[] {-1, 2, LOW, HIGH}) {
            CHECK.due("best(0, " + what + ")", x.best(0, what), -1);
        }
        CHECK.due("nobody", x.best(1, 0), -1);
        Courts.court(x, "in 99 f=4|f=6;win 99 f=4|f=6");
        CHECK.due("of several the least a, then the least b", x.best(0, 0), 40);
        CHECK.due("a million", x.best(0, 1), 1000000);
        Courts.court(x, "out 99 f>1|f<9");
        CHECK.due("all alike", x.best(0, 0), 0);
        CHECK.due("none wins", x.best(0, 1), 0);
        Courts.court(x, "out 99 !f=7");
        CHECK.due("just 7", x.best(0, 0), 77);
        Courts.court(x, "out 99 f<7;in 60 f=8;in 30 f=9;win 99 f>7");
        CHECK.due("8 is always in and wins, as the second one too", x.best(0, 0), 8);
        CHECK.due("a million", x.best(0, 1), 1000000);
    }

    private static void risk() {
        CHECK.promise(15);
        TwoServes x = Courts.with(0, 0, 8, 2);
        x.server(1, 0, 7, 3);
        x.server(2, 0, 7, 3);
        x.server(0, 0, 5, 9);
        CHECK.due("above SOFT", x.risk(0), 3);
        CHECK.due("above HARD, as its second is", x.risk(1), 8);
        CHECK.due("above SOFT", x.risk(2), 4);
        CHECK.due("none is above 9", x.risk(3), -5);
        for (int server : new int[] {-1, 4, LOW, HIGH}) {
            CHECK.due("nobody", x.risk(server), -1);
        }
        Courts.court(x, "out 50 f=1;in 99 f=5");
        CHECK.due("1 is out more often", x.risk(0), 1);
        Courts.court(x, "out 50 f=0;in 99 f=5");
        CHECK.due("0 is out more often", x.risk(0), 0);
        CHECK.due("FIRST is always in", x.risk(3), -5);
    }

    private static void dare() {
        CHECK.promise(16);
        TwoServes x = Courts.with(0, 0, 8, 2);
        x.server(1, 0, 7, 3);
        x.server(0, 0, 0, 6);
        x.server(4, 5, 9, 0);
        CHECK.due("below 0", x.dare(0), chance(8, 8, 0) - chance(8, 2, 0));
        CHECK.due("by hand", x.dare(0), 53 * (47 * 80 - 83 * 50));
        CHECK.due("DARING does", x.dare(1), 0);
        CHECK.due("0 for 6", x.dare(2), chance(0, 0, 0) - chance(0, 6, 0));
        CHECK.due("READ does", x.dare(3), 0);
        Courts.court(x, "in 99 f=8;win 99 f=8;out 99 p=2&f=6");
        CHECK.due("above 0", x.dare(2), 5 * 95 * 40);
        for (int server : new int[] {-1, 4, LOW, HIGH}) {
            CHECK.due("nobody", x.dare(server), NO_DIFFERENCE);
        }
    }

    private static void more() {
        CHECK.promise(17);
        TwoServes x = Courts.with(0, 0, 8, 2);
        x.server(2, 0, 9, 9);
        x.server(0, 0, 9, 3);
        x.server(6, 0, 5, 5);
        CHECK.due("9, 3 for 8, 2", x.more(0, 0), chance(9, 3, 0) - chance(8, 2, 0));
        CHECK.due("9 at most", x.more(1, 0), 0);
        CHECK.due("SOFT alone", x.more(2, 0), chance(9, 4, 0) - chance(9, 3, 0));
        CHECK.due("TOLD: SOFT alone", x.more(3, 0), chance(0, 6, 0) - chance(0, 5, 0));
        CHECK.due("HARD is as it was", x.of(0, 2), 8);
        CHECK.due("SOFT is as it was", x.of(0, 3), 2);
        for (int what : new int[] {-1, 2, LOW, HIGH}) {
            CHECK.due("more(0, " + what + ")", x.more(0, what), NO_DIFFERENCE);
        }
        for (int server : new int[] {-1, 4, LOW, HIGH}) {
            CHECK.due("nobody", x.more(server, 0), NO_DIFFERENCE);
        }
        CHECK.due("6, 3 for 5, 2", Courts.with(0, 0, 5, 2).more(0, 0), chance(6, 3, 0) - chance(5, 2, 0));
        TwoServes tired = Courts.with(3, 0, 8, 2);
        tired.set(0, 2, 40);
        CHECK.due("TIRING, two less", tired.more(0, 0), chance(7, 3, 0) - chance(6, 2, 0));
    }

    private static void fresh() {
        CHECK.promise(17);
        TwoServes x = Courts.with(3, 0, 8, 2);
        x.server(6, 0, 9, 4);
        x.server(0, 0, 8, 2);
        x.set(0, 2, 61);
        x.set(1, 2, 7);
        x.set(2, 2, 500);
        x.row(1, 0, 6);
        x.row(1, 3, 9);
        CHECK.due("8 for 5", x.more(0, 1), chance(8, 2, 0) - chance(5, 2, 0));
        CHECK.due("TOLD: ROW 0 for ROW 3", x.more(1, 1), chance(6, 4, 0) - chance(9, 4, 0));
        CHECK.due("SERVER never tires", x.more(2, 1), 0);
        CHECK.due("SERVED is as it was", x.of(0, 4), 61);
    }

    private static void safe() {
        CHECK.promise(18);
        TwoServes x = Courts.with(0, 0, 8, 2);
        CHECK.due("all are 41 or more", x.safe(0, 41), 9);
        CHECK.due("42", x.safe(0, 42), 8);
        CHECK.due("65", x.safe(0, 65), 5);
        CHECK.due("66", x.safe(0, 66), 4);
        CHECK.due("95", x.safe(0, 95), 0);
        CHECK.due("96", x.safe(0, 96), -5);
        CHECK.due("100", x.safe(0, 100), -5);
        CHECK.due("0", x.safe(0, 0), 9);
        for (int q : new int[] {-1, 101, LOW, HIGH}) {
            CHECK.due("q " + q, x.safe(0, q), -2);
            CHECK.due("NONE ahead of BAD", x.safe(1, q), -1);
        }
        Courts.court(x, "in 99 f=6;in 60 f<1");
        CHECK.due("100 by the COURT", x.safe(0, 100), 6);
    }

    private static void stand() {
        CHECK.promise(19);
        TwoServes x = Courts.with(0, 0, 8, 2);
        x.stance(2);
        CHECK.due("all alike: the first", x.stand(0, 0), 0);
        CHECK.due("its CHANCE", x.stand(0, 1), chance(8, 2, 0));
        Courts.court(x, "win 5 s=0;win 5 s=2&f=2");
        CHECK.due("1 is least", x.stand(0, 0), 1);
        CHECK.due("its CHANCE", x.stand(0, 1), chance(8, 2, 0));
        Courts.court(x, "win 5 s<1;out 40 s>0&f=2");
        CHECK.due("1 and 2 alike: the first", x.stand(0, 0), 1);
        CHECK.due("its CHANCE", x.stand(0, 1), 47 * 80 * 100 + 53 * 43 * 50);
        Courts.court(x, "in 9 s<2");
        CHECK.due("2 is least", x.stand(0, 0), 2);
        CHECK.due("the STANCE is as it was", x.told(2), 2);
        for (int what : new int[] {-1, 2, LOW, HIGH}) {
            CHECK.due("stand(0, " + what + ")", x.stand(0, what), -1);
        }
        CHECK.due("nobody", x.stand(1, 0), -1);
    }
}
