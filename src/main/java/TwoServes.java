import java.util.ArrayList;
import java.util.Arrays;

/** Two serves, a hard one and a soft one: what ../shared/DOC.md promises; its words in capitals are used here. */
public final class TwoServes {
    public static final int NONE = -1, BAD = -2, STATE = -3, FULL = -4;
    public static final long NO = Long.MIN_VALUE;

    private static final int NOTHING = -11, CAST = -12, PLACE = -13, SIZE = -14;
    private static final int NONE_FOUND = -5, FAULT_AT = -10, ENDED_AT = 100;
    private static final int NO_DIFFERENCE = -1000001, BAD_DIFFERENCE = -1000002;

    private static final int FORCES = 10, STANCES = 3, SERVERS = 4, KINDS = 7, ROW = 4;
    private static final int POINTS = 4, GAMES = 4, DRAWS = 100, MOST_SERVED = 9999;
    private static final int SIGNS = 100, CLAUSES = 10, NESTED = 4, COURTS = 6;
    private static final int SEEN = 6, BOOK = 10, TRACED = 20;
    private static final int TAPES = 6, SORTS = 5, SHORTS = 1, ITEMS = 60;
    private static final int MILLION = 1000000;

    private final Situation now = new Situation();
    private final Situation kept = new Situation();
    private final Situation supposed = new Situation();
    private boolean imageTaken;

    private final Text text = new Text();
    private final Court[] courts = new Court[COURTS];
    private int courtCount;

    private final Tape[] tapes = new Tape[TAPES];
    private final ArrayList<Integer> bodies = new ArrayList<>();

    private final int[] ins = new int[FORCES];
    private final int[] wins = new int[FORCES];
    private final int[][] games = new int[POINTS + 1][POINTS + 1];
    private final int[][] matches = new int[GAMES + 1][GAMES + 1];

    public TwoServes() {
        for (int i = 0; i < COURTS; i++) {
            courts[i] = new Court();
        }
        for (int i = 0; i < TAPES; i++) {
            tapes[i] = new Tape();
        }
    }

    // ---- servers, courts

    public int server(int kind, int v, int hard, int soft) {
        if (!within(kind, KINDS)) {
            return NONE;
        }
        if (!within(v, 10) || !within(hard, FORCES) || !within(soft, FORCES)) {
            return BAD;
        }
        if (now.count >= SERVERS) {
            return FULL;
        }
        return now.welcome(born(kind, now.count, v), hard, soft);
    }

    public int of(int server, int what) {
        Server s = serverAt(server);
        if (s == null) {
            return NONE;
        }
        if (within(what - 10, FORCES)) {
            return now.inOf(s, what - 10);
        }
        if (within(what - 20, FORCES)) {
            return now.winsOf(s, what - 20);
        }
        switch (what) {
            case 0: return s.kind;
            case 1: return s.v;
            case 2: return now.hard[s.number];
            case 3: return now.soft[s.number];
            case 4: return now.served[s.number];
            case 5: return s.first(now);
            case 6: return s.second(now);
            default: return NONE;
        }
    }

    public int set(int server, int what, int n) {
        Server s = serverAt(server);
        if (s == null || !within(what, 3)) {
            return NONE;
        }
        if (!within(n, what == 2 ? MOST_SERVED + 1 : FORCES)) {
            return BAD;
        }
        int[] changed = what == 0 ? now.hard : what == 1 ? now.soft : now.served;
        return replaced(changed, s.number, n);
    }

    public int row(int server, int part, int n) {
        Server s = serverAt(server);
        if (s == null || !within(part, ROW)) {
            return NONE;
        }
        if (!within(n, FORCES)) {
            return BAD;
        }
        if (!(s instanceof Told)) {
            return STATE;
        }
        return replaced(now.rows, s.number * ROW + part, n);
    }

    public int feed(int sign) {
        if (!within(sign, 128)) {
            return BAD;
        }
        return text.takes(sign) ? text.length : FULL;
    }

    public int court() {
        if (!within(courtCount, COURTS)) {
            return FULL;
        }
        Court next = courts[courtCount];
        int fault = text.readInto(next);
        text.length = 0;
        if (fault != NONE) {
            return FAULT_AT - fault;
        }
        now.court = next;
        courtCount++;
        return courtCount - 1;
    }

    public int told(int what) {
        switch (what) {
            case 0: return now.won;
            case 1: return now.lost;
            case 2: return now.stance;
            default: return NONE;
        }
    }

    public int stance(int n) {
        if (!within(n, STANCES)) {
            return NONE;
        }
        int was = now.stance;
        now.stance = n;
        return was;
    }

    public int score(int won, int lost) {
        if (!within(won, POINTS + 1) || !within(lost, POINTS + 1) || won == POINTS && lost == POINTS) {
            return BAD;
        }
        now.won = won;
        now.lost = lost;
        return 1;
    }

    // ---- points

    public int chance(int server, int a, int b) {
        Server s = serverAt(server);
        if (s == null || !within(a, FORCES) || !within(b, FORCES)) {
            return NONE;
        }
        return now.chanceBy(s, a, b);
    }

    public int faults(int server, int a, int b) {
        Server s = serverAt(server);
        if (s == null || !within(a, FORCES) || !within(b, FORCES)) {
            return NONE;
        }
        return now.faultsBy(s, a, b);
    }

    public int play(int server, int d, int e) {
        Server s = serverAt(server);
        if (s == null) {
            return NONE;
        }
        if (!within(d, DRAWS) || !within(e, DRAWS)) {
            return BAD;
        }
        if (now.isOver()) {
            return STATE;
        }
        return now.plays(s, d, e) ? 1 : 0;
    }

    // ---- forces, stances

    public int best(int server, int what) {
        Server s = serverAt(server);
        if (s == null || !within(what, 2)) {
            return NONE;
        }
        return bestOf(s, what);
    }

    public int risk(int server) {
        Server s = serverAt(server);
        if (s == null) {
            return NONE;
        }
        int first = s.first(now);
        int faults = now.faultsBy(s, first, s.second(now));
        for (int b = 0; b < FORCES; b++) {
            if (now.faultsBy(s, first, b) > faults) {
                return b;
            }
        }
        return NONE_FOUND;
    }

    public int dare(int server) {
        Server s = serverAt(server);
        if (s == null) {
            return NO_DIFFERENCE;
        }
        int first = s.first(now);
        return now.chanceBy(s, first, first) - now.chanceOf(s);
    }

    public int more(int server, int what) {
        Server s = serverAt(server);
        if (s == null || !within(what, 2)) {
            return NO_DIFFERENCE;
        }
        supposed.takeFrom(now);
        if (what == 0) {
            supposed.hard[s.number] = Math.min(FORCES - 1, now.hard[s.number] + 1);
            supposed.soft[s.number] = Math.min(FORCES - 1, now.soft[s.number] + 1);
        } else {
            supposed.served[s.number] = 0;
        }
        return supposed.chanceOf(s) - now.chanceOf(s);
    }

    public int safe(int server, int q) {
        Server s = serverAt(server);
        if (s == null) {
            return NONE;
        }
        if (!within(q, 101)) {
            return BAD;
        }
        for (int force = FORCES - 1; force >= 0; force--) {
            if (now.inOf(s, force) >= q) {
                return force;
            }
        }
        return NONE_FOUND;
    }

    public int stand(int server, int what) {
        Server s = serverAt(server);
        if (s == null || !within(what, 2)) {
            return NONE;
        }
        int least = chanceAgainst(s, 0);
        int where = 0;
        for (int stance = 1; stance < STANCES; stance++) {
            int chance = chanceAgainst(s, stance);
            if (chance < least) {
                least = chance;
                where = stance;
            }
        }
        return what == 0 ? where : least;
    }

    // ---- games, matches

    public int game(int server, int what) {
        Server s = serverAt(server);
        if (s == null || !within(what, 2)) {
            return NONE;
        }
        return what == 0 ? gameOf(s, now.won, now.lost) : gameOf(s, 0, 0);
    }

    public int swing(int server) {
        Server s = serverAt(server);
        if (s == null) {
            return NO_DIFFERENCE;
        }
        if (now.isOver()) {
            return 0;
        }
        return gameOf(s, now.won + 1, now.lost) - gameOf(s, now.won, now.lost + 1);
    }

    public int match(int one, int other, int n) {
        Server first = serverAt(one);
        Server second = serverAt(other);
        if (first == null || second == null) {
            return NONE;
        }
        if (one == other || !within(n - 1, GAMES)) {
            return BAD;
        }
        return matchOf(gameOf(first, 0, 0), gameOf(second, 0, 0), n);
    }

    public int ahead(int one, int other, int n) {
        Server first = serverAt(one);
        Server second = serverAt(other);
        if (first == null || second == null) {
            return NO_DIFFERENCE;
        }
        if (one == other || !within(n - 1, GAMES)) {
            return BAD_DIFFERENCE;
        }
        int clean = gameOf(first, 0, 0);
        int otherClean = gameOf(second, 0, 0);
        return matchOf(clean, otherClean, n) - (MILLION - matchOf(otherClean, clean, n));
    }

    // ---- seen, odds, books

    public int see(int a, int b) {
        if (a == -1) {
            now.seenCount = 0;
            return 0;
        }
        if (!within(a, FORCES) || !within(b, FORCES)) {
            return NONE;
        }
        if (!within(now.seenCount, SEEN)) {
            return FULL;
        }
        now.seen[now.seenCount] = pair(a, b);
        now.seenCount++;
        return now.seenCount;
    }

    public int who() {
        int bits = 0;
        for (int i = 0; i < now.count; i++) {
            Server s = serverAt(i);
            if (s != null && now.hasSeen(pair(s.first(now), s.second(now)))) {
                bits |= 1 << i;
            }
        }
        return bits;
    }

    public long odds(int server, int part) {
        Server s = serverAt(server);
        if (s == null) {
            return NO;
        }
        long together = 0;
        for (int stance = 0; stance < STANCES; stance++) {
            together += chanceAgainst(s, stance);
        }
        return lowest(together, (long) STANCES * MILLION, part);
    }

    public long mean(int part) {
        long together = 0;
        for (int i = 0; i < now.count; i++) {
            Server s = serverAt(i);
            if (s != null) {
                together += gameOf(s, now.won, now.lost);
            }
        }
        return lowest(together, now.count, part);
    }

    public int book(int server, int d, int e) {
        if (server == -1) {
            now.bookCount = 0;
            return 0;
        }
        if (serverAt(server) == null) {
            return NONE;
        }
        if (!within(d, DRAWS) || !within(e, DRAWS)) {
            return BAD;
        }
        return now.books(server, d, e) ? now.bookCount : FULL;
    }

    public int looked() {
        supposed.takeFrom(now);
        for (int i = 0; i < now.bookCount && i < BOOK; i++) {
            Server s = serverAt(now.bookServer[i]);
            if (supposed.isOver()) {
                supposed.won = 0;
                supposed.lost = 0;
            }
            if (s != null && !supposed.plays(s, now.bookD[i], now.bookE[i])) {
                return i;
            }
        }
        return NONE_FOUND;
    }

    // ---- judging, the image, acts, tapes

    public int judge(int tape, int i) {
        Tape t = tapeAt(tape);
        if (t == null) {
            return NONE;
        }
        if (t.sort != NONE && t.sort != SHORTS) {
            return CAST;
        }
        for (int server = 0; server < now.count; server++) {
            if (i < 0 || !t.has((long) i + server)) {
                return ENDED_AT + server;
            }
            if (t.at(i + server) != now.served[server]) {
                return server;
            }
        }
        return NONE_FOUND;
    }

    public int image() {
        kept.takeFrom(now);
        imageTaken = true;
        return kept.count;
    }

    public int undo() {
        if (!imageTaken) {
            return STATE;
        }
        now.takeFrom(kept);
        return now.count;
    }

    public int act(int server, int act, int x) {
        bodies.clear();
        Server s = serverAt(server);
        if (s == null) {
            return 0;
        }
        switch (act) {
            case 0: return s.tosses(x, bodies);
            case 1: return s.strikes(x, bodies);
            case 2: return s.tells(x, bodies);
            default: return 0;
        }
    }

    public int trace(int i) {
        return within(i, Math.min(TRACED, bodies.size())) ? bodies.get(i) : NONE;
    }

    public int taken(int server, int k) {
        if (!within(k, KINDS)) {
            return BAD;
        }
        Server s = serverAt(server);
        if (s == null) {
            return NOTHING;
        }
        return isOneOf(s, k) ? s.kind : CAST;
    }

    public int count(int what) {
        switch (what) {
            case 0: return now.count;
            case 1: return courtCount;
            case 2: return now.seenCount;
            case 3: return now.bookCount;
            case 4: return text.length;
            case 5: return bodies.size();
            default: return BAD;
        }
    }

    public int tape(int tape, int sort, int n) {
        Tape t = tapeAt(tape);
        if (t == null) {
            return NONE;
        }
        if (sort == NONE) {
            t.become(NONE, 0);
            return 1;
        }
        if (!within(sort, SORTS) || n > ITEMS) {
            return BAD;
        }
        if (n < 0) {
            return SIZE;
        }
        t.become(sort, n);
        return 1;
    }

    public int item(int tape, int i, long v) {
        Tape t = tapeAt(tape);
        if (t == null) {
            return NONE;
        }
        if (t.sort == NONE) {
            return NOTHING;
        }
        return t.puts(i, v) ? 1 : PLACE;
    }

    public long read(int tape, int i) {
        Tape t = tapeAt(tape);
        return t == null ? NO : t.at(i);
    }

    public int shift(int tape, int i, int other, int j, int n) {
        Tape from = tapeAt(tape);
        Tape to = tapeAt(other);
        if (from == null || to == null) {
            return NONE;
        }
        if (from.sort == NONE || to.sort == NONE) {
            return NOTHING;
        }
        if (from.sort != to.sort) {
            return CAST;
        }
        return to.takes(j, from, i, n) ? n : PLACE;
    }

    // ---- what the calls share

    private static boolean within(int n, int end) {
        return n >= 0 && n < end;
    }

    private static int pair(int a, int b) {
        return 10 * a + b;
    }

    private static int replaced(int[] cells, int i, int n) {
        if (!within(i, cells.length)) {
            return NONE;
        }
        int was = cells[i];
        cells[i] = n;
        return was;
    }

    private Server serverAt(int n) {
        return within(n, Math.min(SERVERS, now.count)) ? now.servers[n] : null;
    }

    private Tape tapeAt(int n) {
        return within(n, TAPES) ? tapes[n] : null;
    }

    private static Server born(int kind, int number, int v) {
        switch (kind) {
            case 1: return new Daring(kind, number, v);
            case 2: return new Timid(kind, number, v);
            case 3: return new Tiring(kind, number, v);
            case 4: return new Read(kind, number, v);
            case 5: return new Sure(kind, number, v);
            case 6: return new Told(kind, number, v);
            default: return new Server(kind, number, v);
        }
    }

    private static boolean isOneOf(Server s, int kind) {
        switch (kind) {
            case 0: return true;
            case 1: return s instanceof Daring;
            case 2: return s instanceof Timid;
            case 3: return s instanceof Tiring;
            case 4: return s instanceof Read;
            case 5: return s instanceof Sure;
            case 6: return s instanceof Told;
            default: return false;
        }
    }

    private int bestOf(Server s, int what) {
        for (int force = 0; force < FORCES; force++) {
            ins[force] = now.inOf(s, force);
            wins[force] = now.winsOf(s, force);
        }
        int greatest = NONE;
        int which = 0;
        for (int a = 0; a < FORCES; a++) {
            for (int b = 0; b < FORCES; b++) {
                int chance = twoServes(ins[a], wins[a], ins[b], wins[b]);
                if (chance > greatest) {
                    greatest = chance;
                    which = pair(a, b);
                }
            }
        }
        return what == 0 ? which : greatest;
    }

    private static int twoServes(int in, int wins, int secondIn, int secondWins) {
        return in * wins * 100 + (100 - in) * secondIn * secondWins;
    }

    private int chanceAgainst(Server s, int stance) {
        supposed.takeFrom(now);
        supposed.stance = stance;
        return supposed.chanceOf(s);
    }

    /** GAME from these WON, LOST on. */
    private int gameOf(Server s, int won, int lost) {
        supposed.takeFrom(now);
        for (int w = POINTS; w >= won; w--) {
            for (int l = POINTS; l >= lost; l--) {
                if (w == POINTS || l == POINTS) {
                    games[w][l] = w == POINTS ? MILLION : 0;
                } else {
                    supposed.won = w;
                    supposed.lost = l;
                    games[w][l] = mixed(supposed.chanceOf(s), games[w + 1][l], games[w][l + 1]);
                }
            }
        }
        return games[won][lost];
    }

    /** MATCH by the CLEAN of whoever serves first and that of the other. */
    private int matchOf(int clean, int otherClean, int n) {
        for (int a = n; a >= 0; a--) {
            for (int b = n; b >= 0; b--) {
                if (a == n || b == n) {
                    matches[a][b] = a == n ? MILLION : 0;
                } else {
                    int c = (a + b) % 2 == 0 ? clean : MILLION - otherClean;
                    matches[a][b] = mixed(c, matches[a + 1][b], matches[a][b + 1]);
                }
            }
        }
        return matches[0][0];
    }

    private static int mixed(long chance, int ifWon, int ifLost) {
        return (int) ((chance * ifWon + (MILLION - chance) * ifLost) / MILLION);
    }

    private static long lowest(long above, long below, int part) {
        if (below <= 0 || !within(part, 2)) {
            return NO;
        }
        long divisor = below;
        long rest = above;
        // Euclid's rests fall by half in two steps, so that 200 are far more than a long can need.
        for (int step = 0; step < 200 && rest != 0; step++) {
            long next = divisor % rest;
            divisor = rest;
            rest = next;
        }
        if (divisor <= 0) {
            return NO;
        }
        return (part == 0 ? above : below) / divisor;
    }

    /** All that THE IMAGE holds: how it is now, how it was then, or how it would be. */
    private static final class Situation {
        final Server[] servers = new Server[SERVERS];
        final int[] hard = new int[SERVERS];
        final int[] soft = new int[SERVERS];
        final int[] served = new int[SERVERS];
        final int[] rows = new int[SERVERS * ROW];
        int count;
        int won;
        int lost;
        int stance = 1;
        final int[] seen = new int[SEEN];
        int seenCount;
        final int[] bookServer = new int[BOOK];
        final int[] bookD = new int[BOOK];
        final int[] bookE = new int[BOOK];
        int bookCount;
        Court court;
        private final int[] letters = new int[Text.LETTERS.length()];

        void takeFrom(Situation other) {
            for (int i = 0; i < SERVERS; i++) {
                servers[i] = other.servers[i];
                hard[i] = other.hard[i];
                soft[i] = other.soft[i];
                served[i] = other.served[i];
            }
            System.arraycopy(other.rows, 0, rows, 0, SERVERS * ROW);
            count = other.count;
            won = other.won;
            lost = other.lost;
            stance = other.stance;
            System.arraycopy(other.seen, 0, seen, 0, SEEN);
            seenCount = other.seenCount;
            System.arraycopy(other.bookServer, 0, bookServer, 0, BOOK);
            System.arraycopy(other.bookD, 0, bookD, 0, BOOK);
            System.arraycopy(other.bookE, 0, bookE, 0, BOOK);
            bookCount = other.bookCount;
            court = other.court;
        }

        /** The number of a new SERVER; SERVED and the ROW are 0 there, as undo() brings back the 0 of THE IMAGE. */
        int welcome(Server s, int hardForce, int softForce) {
            if (!within(s.number, SERVERS)) {
                return FULL;
            }
            servers[s.number] = s;
            hard[s.number] = hardForce;
            soft[s.number] = softForce;
            count = s.number + 1;
            return s.number;
        }

        boolean books(int server, int d, int e) {
            if (!within(bookCount, BOOK)) {
                return false;
            }
            bookServer[bookCount] = server;
            bookD[bookCount] = d;
            bookE[bookCount] = e;
            bookCount++;
            return true;
        }

        boolean hasSeen(int forces) {
            for (int i = 0; i < seenCount && i < SEEN; i++) {
                if (seen[i] == forces) {
                    return true;
                }
            }
            return false;
        }

        boolean isOver() {
            return won >= POINTS || lost >= POINTS;
        }

        int inOf(Server s, int force) {
            int clauses = court == null ? 0 : court.together(Court.TO_IN, lettersOf(s, force));
            return percent(95 - 6 * force + clauses);
        }

        int winsOf(Server s, int force) {
            int clauses = court == null ? 0 : court.together(Court.TO_WINS, lettersOf(s, force));
            return s.winsAgainst(percent(40 + 5 * force + clauses));
        }

        private static int percent(int n) {
            return Math.max(0, Math.min(100, n));
        }

        private int[] lettersOf(Server s, int force) {
            letters[0] = s.number;
            letters[1] = s.kind;
            letters[2] = force;
            letters[3] = stance;
            letters[4] = won;
            letters[5] = lost;
            return letters;
        }

        int chanceBy(Server s, int a, int b) {
            return twoServes(inOf(s, a), winsOf(s, a), inOf(s, b), winsOf(s, b));
        }

        int chanceOf(Server s) {
            return chanceBy(s, s.first(this), s.second(this));
        }

        int faultsBy(Server s, int a, int b) {
            return (100 - inOf(s, a)) * (100 - inOf(s, b));
        }

        /** A POINT is played: whether it is won. */
        boolean plays(Server s, int d, int e) {
            boolean isWon = wins(s, d, e);
            if (isWon) {
                won++;
            } else {
                lost++;
            }
            served[s.number] = Math.min(MOST_SERVED, served[s.number] + 1);
            return isWon;
        }

        private boolean wins(Server s, int d, int e) {
            int first = s.first(this);
            if (d < inOf(s, first)) {
                return e < winsOf(s, first);
            }
            int second = s.second(this);
            return e < inOf(s, second) && (d + e) % 100 < winsOf(s, second);
        }
    }

    /** KIND 0; what may change of a SERVER stands in a Situation at its number, so that others can be supposed. */
    private static class Server {
        final int kind;
        final int number;
        final int v;

        Server(int kind, int number, int v) {
            this.kind = kind;
            this.number = number;
            this.v = v;
        }

        int first(Situation in) {
            return in.hard[number];
        }

        int second(Situation in) {
            return in.soft[number];
        }

        int winsAgainst(int percent) {
            return percent;
        }

        int tosses(int x, ArrayList<Integer> bodies) {
            bodies.add(10);
            return x + number;
        }

        int strikes(int x, ArrayList<Integer> bodies) {
            bodies.add(11);
            return tosses(x, bodies) - v;
        }

        int tells(int x, ArrayList<Integer> bodies) {
            bodies.add(12);
            return strikes(x, bodies) * 2;
        }
    }

    private static class Daring extends Server {
        Daring(int kind, int number, int v) {
            super(kind, number, v);
        }

        int second(Situation in) {
            return in.hard[number];
        }

        int strikes(int x, ArrayList<Integer> bodies) {
            bodies.add(20);
            return super.strikes(x, bodies) ^ 6;
        }
    }

    private static class Timid extends Server {
        Timid(int kind, int number, int v) {
            super(kind, number, v);
        }

        int first(Situation in) {
            return in.soft[number];
        }

        int tosses(int x, ArrayList<Integer> bodies) {
            bodies.add(30);
            return super.tosses(x * 3, bodies);
        }
    }

    private static class Tiring extends Server {
        Tiring(int kind, int number, int v) {
            super(kind, number, v);
        }

        int first(Situation in) {
            return Math.max(0, in.hard[number] - in.served[number] / 20);
        }

        int tells(int x, ArrayList<Integer> bodies) {
            bodies.add(40);
            return super.tells(x, bodies) + strikes(1, bodies);
        }
    }

    private static final class Read extends Daring {
        Read(int kind, int number, int v) {
            super(kind, number, v);
        }

        int winsAgainst(int percent) {
            return Math.max(0, percent - v);
        }

        int tosses(int x, ArrayList<Integer> bodies) {
            bodies.add(50);
            return -super.tosses(x, bodies);
        }

        int strikes(int x, ArrayList<Integer> bodies) {
            bodies.add(51);
            return super.strikes(x + 1, bodies);
        }
    }

    private static final class Sure extends Timid {
        Sure(int kind, int number, int v) {
            super(kind, number, v);
        }

        int first(Situation in) {
            return in.won == 3 || in.lost == 3 ? in.hard[number] : super.first(in);
        }

        int tells(int x, ArrayList<Integer> bodies) {
            bodies.add(60);
            return super.tells(x - number, bodies);
        }
    }

    private static final class Told extends Tiring {
        Told(int kind, int number, int v) {
            super(kind, number, v);
        }

        int first(Situation in) {
            return in.rows[number * ROW + in.served[number] % ROW];
        }

        int strikes(int x, ArrayList<Integer> bodies) {
            bodies.add(70);
            return super.strikes(x, bodies) + super.tosses(2, bodies);
        }

        int tosses(int x, ArrayList<Integer> bodies) {
            bodies.add(71);
            return super.tosses(x, bodies) ^ v;
        }
    }

    /** THE TEXT, and how a COURT is read from it: each method stops at the first sign that cannot stand there. */
    private static final class Text {
        static final String LETTERS = "pkfswl";
        static final String COMPARISONS = "<=>";
        private static final char END = 255;

        private final char[] signs = new char[SIGNS];
        int length;
        private int place;

        boolean takes(int sign) {
            if (!within(length, SIGNS)) {
                return false;
            }
            signs[length] = (char) sign;
            length++;
            return true;
        }

        /** The FAULT, or NONE. */
        int readInto(Court court) {
            court.clear();
            place = 0;
            for (int n = 1; n <= CLAUSES; n++) {
                if (!clause(court)) {
                    return place;
                }
                if (place == length) {
                    return NONE;
                }
                if (n == CLAUSES || !took(';')) {
                    return place;
                }
            }
            return place;
        }

        private boolean clause(Court court) {
            char begins = sign();
            String word = begins == 'i' ? "in " : begins == 'w' ? "win " : "out ";
            for (int i = 0; i < word.length(); i++) {
                if (!took(word.charAt(i))) {
                    return false;
                }
            }
            int n = number();
            if (n == NONE || !took(' ') || !anyOf(court, 0)) {
                return false;
            }
            court.closeClause(begins == 'w' ? Court.TO_WINS : Court.TO_IN, begins == 'o' ? -n : n);
            return true;
        }

        /** E */
        private boolean anyOf(Court court, int depth) {
            for (int parts = 0; parts < SIGNS; parts++) {
                if (!allOf(court, depth)) {
                    return false;
                }
                if (parts > 0) {
                    court.add(Court.OR);
                }
                if (!took('|')) {
                    return true;
                }
            }
            return false;
        }

        /** T */
        private boolean allOf(Court court, int depth) {
            for (int parts = 0; parts < SIGNS; parts++) {
                if (!factor(court, depth)) {
                    return false;
                }
                if (parts > 0) {
                    court.add(Court.AND);
                }
                if (!took('&')) {
                    return true;
                }
            }
            return false;
        }

        /** F */
        private boolean factor(Court court, int depth) {
            if (depth < NESTED && took('(')) {
                return anyOf(court, depth + 1) && took(')');
            }
            if (depth < NESTED && took('!')) {
                boolean stands = factor(court, depth + 1);
                court.add(Court.NOT);
                return stands;
            }
            return test(court);
        }

        private boolean test(Court court) {
            int letter = LETTERS.indexOf(sign());
            if (letter < 0) {
                return false;
            }
            place++;
            int comparison = COMPARISONS.indexOf(sign());
            if (comparison < 0) {
                return false;
            }
            place++;
            int n = number();
            if (n == NONE) {
                return false;
            }
            court.add(Court.testOf(letter, comparison, n));
            return true;
        }

        /** A number of 1 or 2 digits, or NONE. */
        private int number() {
            int n = NONE;
            for (int digits = 0; digits < 2; digits++) {
                if (place >= length || signs[place] < '0' || signs[place] > '9') {
                    return n;
                }
                n = Math.max(n, 0) * 10 + signs[place] - '0';
                place++;
            }
            return n;
        }

        private boolean took(char c) {
            if (sign() != c) {
                return false;
            }
            place++;
            return true;
        }

        private char sign() {
            return place < length ? signs[place] : END;
        }
    }

    /** The CLAUSES; each E is code behind the former's, its parts ahead of what joins them. */
    private static final class Court {
        static final int TO_IN = 0, TO_WINS = 1;
        static final int NOT = -1, AND = -2, OR = -3;

        private final int[] code = new int[SIGNS];
        private int size;
        private final int[] sums = new int[CLAUSES];
        private final int[] amounts = new int[CLAUSES];
        private final int[] ends = new int[CLAUSES];
        private int clauses;

        static int testOf(int letter, int comparison, int n) {
            return (letter * 3 + comparison) * 100 + n;
        }

        void clear() {
            size = 0;
            clauses = 0;
        }

        void add(int part) {
            if (size < SIGNS) {
                code[size] = part;
                size++;
            }
        }

        void closeClause(int sum, int amount) {
            if (clauses < CLAUSES) {
                sums[clauses] = sum;
                amounts[clauses] = amount;
                ends[clauses] = size;
                clauses++;
            }
        }

        /** What the CLAUSES whose E holds add to IN, or to WINS. */
        int together(int sum, int[] letters) {
            int together = 0;
            int from = 0;
            for (int i = 0; i < clauses; i++) {
                if (sums[i] == sum && holds(from, ends[i], letters)) {
                    together += amounts[i];
                }
                from = ends[i];
            }
            return together;
        }

        private boolean holds(int from, int end, int[] letters) {
            // The bits are a stack, the lowest its top; as ( and ! go 4 deep, some 11 of them are used.
            int answers = 0;
            for (int i = from; i < end; i++) {
                int top = answers & 1;
                if (code[i] == NOT) {
                    answers ^= 1;
                } else if (code[i] == AND) {
                    answers = answers >> 1 & (top | ~1);
                } else if (code[i] == OR) {
                    answers = answers >> 1 | top;
                } else {
                    answers = answers << 1 | (passes(code[i], letters) ? 1 : 0);
                }
            }
            return (answers & 1) == 1;
        }

        private static boolean passes(int test, int[] letters) {
            int letter = test / 300;
            if (letter < 0 || letter >= letters.length) {
                return false;
            }
            int value = letters[letter];
            int n = test % 100;
            switch (test / 100 % 3) {
                case 0: return value < n;
                case 1: return value == n;
                default: return value > n;
            }
        }
    }

    /** A TAPE; an item of any sort fits into a long. */
    private static final class Tape {
        private final long[] items = new long[ITEMS];
        private int length;
        int sort = NONE;

        void become(int newSort, int n) {
            sort = newSort;
            length = Math.max(0, Math.min(ITEMS, n));
            Arrays.fill(items, 0L);
        }

        boolean has(long i) {
            return i >= 0 && i < length;
        }

        long at(int i) {
            return has(i) ? items[i] : NO;
        }

        boolean puts(int i, long v) {
            if (!has(i)) {
                return false;
            }
            items[i] = cut(v);
            return true;
        }

        private long cut(long v) {
            switch (sort) {
                case 0: return (byte) v;
                case 1: return (short) v;
                case 2: return (int) v;
                case 3: return v;
                default: return v != 0 ? 1 : 0;
            }
        }

        private boolean spans(int i, int n) {
            return i >= 0 && n >= 0 && i <= length - n;
        }

        boolean takes(int j, Tape from, int i, int n) {
            if (!from.spans(i, n) || !spans(j, n)) {
                return false;
            }
            System.arraycopy(from.items, i, items, j, n);
            return true;
        }
    }
}
