import java.util.Random;

/** All promises: runs of 512 calls by chance (of a seed, always the same), the class and the Model asked alike. */
public final class ModelTest {
    private static final Check CHECK = new Check("runs beside the model");
    private static final int RUNS = 400, CALLS = 512;
    private static final int[] ODD = {-1, -2, 10, 60, 61, 100, 101, 127, 128, 9999, 10000, Integer.MIN_VALUE,
        Integer.MAX_VALUE, Integer.MIN_VALUE + 1, Integer.MAX_VALUE - 1};

    private final Random random;
    private final TwoServes x = new TwoServes();
    private final Model model = new Model();
    private final int run;
    private String text = "";
    private int asked;

    private ModelTest(int run) {
        this.run = run;
        this.random = new Random(run);
    }

    public static void main(String[] args) {
        for (int run = 0; run < RUNS; run++) {
            new ModelTest(run).go();
        }
        CHECK.end();
    }

    private void go() {
        // A third of the runs begin with SERVERS and a COURT, so that most calls of these have something to answer.
        if (run % 3 == 0) {
            for (int i = 0; i < 4; i++) {
                ask(0, random.nextInt(7), below(10), below(10), below(10), 0);
            }
            text = court();
            while (!text.isEmpty()) {
                call(5);
            }
            call(6);
        }
        while (asked < CALLS) {
            call(random.nextInt(9) == 0 ? 5 : random.nextInt(41));
        }
    }

    /** Mostly a number below this one, sometimes an odd one. */
    private int below(int end) {
        return random.nextInt(25) == 0 ? ODD[random.nextInt(ODD.length)] : random.nextInt(end);
    }

    private void call(int which) {
        switch (which) {
            case 0: ask(0, below(7), below(10), below(10), below(10), 0); break;
            case 1: ask(1, below(5), below(30), 0, 0, 0); break;
            case 2: int what = below(3);
                ask(2, below(5), what, below(what == 2 ? 80 : 10), 0, 0); break;
            case 3: ask(3, below(5), below(4), below(10), 0, 0); break;
            case 5: feedOne(); break;
            case 6: ask(6, 0, 0, 0, 0, 0); break;
            case 7: ask(7, below(4), 0, 0, 0, 0); break;
            case 8: ask(8, below(3), 0, 0, 0, 0); break;
            case 9: ask(9, below(5), below(5), 0, 0, 0); break;
            case 10: case 11: ask(which, below(5), below(10), below(10), 0, 0); break;
            case 12: ask(12, below(5), below(100), below(100), 0, 0); break;
            case 13: case 16: case 18: case 19: case 25: ask(which, below(5), below(2), 0, 0, 0); break;
            case 14: case 15: case 20: ask(which, below(5), 0, 0, 0, 0); break;
            case 17: ask(17, below(5), below(101), 0, 0, 0); break;
            case 21: case 22: ask(which, below(5), below(5), below(6), 0, 0); break;
            case 23: ask(23, random.nextInt(8) == 0 ? -1 : below(10), below(10), 0, 0, 0); break;
            case 24: case 28: case 30: case 31: ask(which, 0, 0, 0, 0, 0); break;
            case 26: ask(26, below(2), 0, 0, 0, 0); break;
            case 27: ask(27, random.nextInt(8) == 0 ? -1 : below(5), below(100), below(100), 0, 0); break;
            case 29: ask(29, below(6), below(10), 0, 0, 0); break;
            case 32: ask(32, below(5), below(3), random.nextBoolean() ? below(20) : random.nextInt(), 0, 0); break;
            case 33: ask(33, below(13), 0, 0, 0, 0); break;
            case 34: ask(34, below(5), below(7), 0, 0, 0); break;
            case 35: ask(35, below(6), 0, 0, 0, 0); break;
            case 36: ask(36, below(6), random.nextBoolean() ? 1 : below(5) - 1, below(12), 0, 0); break;
            case 37: ask(37, below(6), below(12), 0, 0, 0); break;
            case 38: ask(38, below(6), below(12), 0, 0, 0); break;
            case 39: ask(39, below(6), below(8), below(6), below(8), below(8)); break;
            default: judged();
        }
    }

    /** Signs of a COURT that is mostly right; behind its last one, most often, the COURT itself. */
    private void feedOne() {
        if (text.isEmpty()) {
            text = court();
        }
        int sign = random.nextInt(60) == 0 ? below(128) : text.charAt(0);
        ask(5, sign, 0, 0, 0, 0);
        text = text.substring(1);
        if (text.isEmpty() && random.nextInt(4) > 0) {
            ask(6, 0, 0, 0, 0, 0);
        }
    }

    private String court() {
        StringBuilder made = new StringBuilder();
        int clauses = 1 + random.nextInt(random.nextInt(6) == 0 ? 11 : 4);
        for (int n = 0; n < clauses; n++) {
            made.append(n == 0 ? "" : ";").append(new String[] {"in ", "win ", "out "}[random.nextInt(3)]);
            made.append(random.nextInt(random.nextBoolean() ? 100 : 20)).append(' ').append(e(clauses > 4 ? 4 : 0));
        }
        if (random.nextInt(5) == 0) {
            int place = random.nextInt(made.length());
            made.setCharAt(place, "()!&|;<=>pkfswl019 xnuo".charAt(random.nextInt(23)));
        }
        if (random.nextInt(8) == 0) {
            made.deleteCharAt(random.nextInt(made.length()));
        }
        return made.length() == 0 ? "i" : made.toString();
    }

    private String e(int depth) {
        String made = f(depth);
        for (int n = random.nextInt(3); n > 0 && depth < 4; n--) {
            made = made + (random.nextBoolean() ? "&" : "|") + f(depth);
        }
        return made;
    }

    private String f(int depth) {
        int form = random.nextInt(depth < 5 ? 5 : 20);
        if (form == 0 && depth < 6) {
            return "!" + f(depth + 1);
        }
        if (form == 1 && depth < 6) {
            return "(" + e(depth + 1) + ")";
        }
        int letter = random.nextInt(6);
        int n = random.nextInt(new int[] {4, 7, 10, 3, 5, 5}[letter]);
        return "" + "pkfswl".charAt(letter) + "<=>".charAt(random.nextInt(3)) + n;
    }

    /** What was SERVED is told by shorts, mostly rightly, and judged. */
    private void judged() {
        int tape = random.nextInt(6);
        int from = random.nextInt(3);
        ask(36, tape, 1, 2 + random.nextInt(6), 0, 0);
        for (int i = 0; i < 4; i++) {
            int served = Math.max(0, model.of(i, 4));
            item(tape, from + i, random.nextInt(12) == 0 ? served + 1 : served);
        }
        ask(29, tape, from, 0, 0, 0);
    }

    private void item(int tape, int i, long v) {
        if (isCall()) {
            CHECK.due(name(37, tape, i, 0, 0, 0) + " " + v, x.item(tape, i, v), model.item(tape, i, v));
        }
    }

    /** What an object answers after its 512th call is free, so it is not asked then. */
    private boolean isCall() {
        asked++;
        return asked <= CALLS;
    }

    private String name(int which, int a, int b, int c, int d, int e) {
        return "run " + run + ": call " + which + " of " + a + ", " + b + ", " + c + ", " + d + ", " + e;
    }

    private void ask(int which, int a, int b, int c, int d, int e) {
        if (!isCall()) {
            return;
        }
        String name = name(which, a, b, c, d, e);
        CHECK.promise(which + 2);
        switch (which) {
            case 0: CHECK.due(name, x.server(a, b, c, d), model.server(a, b, c, d)); break;
            case 1: CHECK.due(name, x.of(a, b), model.of(a, b)); break;
            case 2: CHECK.due(name, x.set(a, b, c), model.set(a, b, c)); break;
            case 3: CHECK.due(name, x.row(a, b, c), model.row(a, b, c)); break;
            case 5: CHECK.due(name, x.feed(a), model.feed(a)); break;
            case 6: CHECK.due(name, x.court(), model.court()); break;
            case 7: CHECK.due(name, x.told(a), model.told(a)); break;
            case 8: CHECK.due(name, x.stance(a), model.stance(a)); break;
            case 9: CHECK.due(name, x.score(a, b), model.score(a, b)); break;
            case 10: CHECK.due(name, x.chance(a, b, c), model.chance(a, b, c)); break;
            case 11: CHECK.due(name, x.faults(a, b, c), model.faults(a, b, c)); break;
            case 12: CHECK.due(name, x.play(a, b, c), model.play(a, b, c)); break;
            case 13: CHECK.due(name, x.best(a, b), model.best(a, b)); break;
            case 14: CHECK.due(name, x.risk(a), model.risk(a)); break;
            case 15: CHECK.due(name, x.dare(a), model.dare(a)); break;
            case 16: CHECK.due(name, x.more(a, b), model.more(a, b)); break;
            case 17: CHECK.due(name, x.safe(a, b), model.safe(a, b)); break;
            case 18: CHECK.due(name, x.stand(a, b), model.stand(a, b)); break;
            case 19: CHECK.due(name, x.game(a, b), model.game(a, b)); break;
            default: askMore(name, which, a, b, c, d, e);
        }
    }

    private void askMore(String name, int which, int a, int b, int c, int d, int e) {
        long v = a % 2 == 0 ? random.nextLong() : random.nextInt(3);
        switch (which) {
            case 20: CHECK.due(name, x.swing(a), model.swing(a)); break;
            case 21: CHECK.due(name, x.match(a, b, c), model.match(a, b, c)); break;
            case 22: CHECK.due(name, x.ahead(a, b, c), model.ahead(a, b, c)); break;
            case 23: CHECK.due(name, x.see(a, b), model.see(a, b)); break;
            case 24: CHECK.due(name, x.who(), model.who()); break;
            case 25: CHECK.due(name, x.odds(a, b), model.odds(a, b)); break;
            case 26: CHECK.due(name, x.mean(a), model.mean(a)); break;
            case 27: CHECK.due(name, x.book(a, b, c), model.book(a, b, c)); break;
            case 28: CHECK.due(name, x.looked(), model.looked()); break;
            case 29: CHECK.due(name, x.judge(a, b), model.judge(a, b)); break;
            case 30: CHECK.due(name, x.image(), model.image()); break;
            case 31: CHECK.due(name, x.undo(), model.undo()); break;
            case 32: CHECK.due(name, x.act(a, b, c), model.act(a, b, c)); break;
            case 33: CHECK.due(name, x.trace(a), model.trace(a)); break;
            case 34: CHECK.due(name, x.taken(a, b), model.taken(a, b)); break;
            case 35: CHECK.due(name, x.count(a), model.count(a)); break;
            case 36: CHECK.due(name, x.tape(a, b, c), model.tape(a, b, c)); break;
            case 37: CHECK.due(name, x.item(a, b, v), model.item(a, b, v)); break;
            case 38: CHECK.due(name, x.read(a, b), model.read(a, b)); break;
            case 39: CHECK.due(name, x.shift(a, b, c, d, e), model.shift(a, b, c, d, e)); break;
            default: CHECK.that("no call " + which, false);
        }
    }
}
