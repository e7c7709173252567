import java.math.BigInteger;
import java.util.ArrayList;
import java.util.List;
import java.util.regex.Matcher;
import java.util.regex.Pattern;

/**
 * The document told a second time, as plainly as can be and in another way than the class: texts read anew at each
 * question, FAULTS found by a pattern, plain recursion, acts by a table, tapes as Java's own arrays.
 */
final class Model {
    private static final int NONE = -1, BAD = -2, STATE = -3, FULL = -4;
    private static final int NOTHING = -11, CAST = -12, PLACE = -13, SIZE = -14;
    private static final long NO = Long.MIN_VALUE, MILLION = 1000000;
    private static final Pattern COURT = courtPattern();
    private static final int[] ABOVE = {-1, 0, 0, 0, 1, 2, 3};

    /** What THE IMAGE holds. */
    private static final class World {
        final List<int[]> servers = new ArrayList<>(); // kind, v, hard, soft, served, row 0 .. 3
        int won, lost, stance = 1;
        List<int[]> seen = new ArrayList<>();
        List<int[]> book = new ArrayList<>();
        String court = "";

        World copy() {
            World c = new World();
            for (int[] s : servers) {
                c.servers.add(s.clone());
            }
            c.won = won;
            c.lost = lost;
            c.stance = stance;
            c.seen = new ArrayList<>(seen);
            c.book = new ArrayList<>(book);
            c.court = court;
            return c;
        }

        int first(int i) {
            int[] s = servers.get(i);
            switch (s[0]) {
                case 1: case 4: return s[2];
                case 2: return s[3];
                case 3: return Math.max(0, s[2] - s[4] / 20);
                case 5: return won == 3 || lost == 3 ? s[2] : s[3];
                case 6: return s[5 + s[4] % 4];
                default: return s[2];
            }
        }

        int second(int i) {
            int[] s = servers.get(i);
            return s[0] == 1 || s[0] == 4 ? s[2] : s[3];
        }

        int in(int i, int f) {
            return percent(95 - 6 * f + clauses("in", i, f) - clauses("out", i, f));
        }

        int wins(int i, int f) {
            int n = percent(40 + 5 * f + clauses("win", i, f));
            return servers.get(i)[0] == 4 ? Math.max(0, n - servers.get(i)[1]) : n;
        }

        private static int percent(int n) {
            return n < 0 ? 0 : n > 100 ? 100 : n;
        }

        private int clauses(String word, int i, int f) {
            int n = 0;
            for (String clause : court.isEmpty() ? new String[0] : court.split(";")) {
                String[] parts = clause.split(" ");
                if (parts[0].equals(word) && e(parts[2], i, f)) {
                    n += Integer.parseInt(parts[1]);
                }
            }
            return n;
        }

        /** Splits at the weakest sign outside of all ( and ). */
        private boolean e(String text, int i, int f) {
            for (char sign : new char[] {'|', '&'}) {
                int deep = 0;
                for (int k = 0; k < text.length(); k++) {
                    deep += text.charAt(k) == '(' ? 1 : text.charAt(k) == ')' ? -1 : 0;
                    if (deep == 0 && text.charAt(k) == sign) {
                        boolean left = e(text.substring(0, k), i, f);
                        boolean right = e(text.substring(k + 1), i, f);
                        return sign == '|' ? left || right : left && right;
                    }
                }
            }
            if (text.charAt(0) == '!') {
                return !e(text.substring(1), i, f);
            }
            if (text.charAt(0) == '(') {
                return e(text.substring(1, text.length() - 1), i, f);
            }
            int n = Integer.parseInt(text.substring(2));
            int value = value(text.charAt(0), i, f);
            char sign = text.charAt(1);
            return sign == '<' ? value < n : sign == '>' ? value > n : value == n;
        }

        private int value(char letter, int i, int f) {
            switch (letter) {
                case 'p': return i;
                case 'k': return servers.get(i)[0];
                case 'f': return f;
                case 's': return stance;
                case 'w': return won;
                default: return lost;
            }
        }

        int chance(int i, int a, int b) {
            return in(i, a) * wins(i, a) * 100 + (100 - in(i, a)) * in(i, b) * wins(i, b);
        }

        int chance(int i) {
            return chance(i, first(i), second(i));
        }

        int faults(int i, int a, int b) {
            return (100 - in(i, a)) * (100 - in(i, b));
        }

        boolean over() {
            return won == 4 || lost == 4;
        }

        boolean point(int i, int d, int e) {
            boolean isWon = false;
            if (d < in(i, first(i))) {
                isWon = e < wins(i, first(i));
            } else if (e < in(i, second(i))) {
                isWon = (d + e) % 100 < wins(i, second(i));
            }
            won += isWon ? 1 : 0;
            lost += isWon ? 0 : 1;
            servers.get(i)[4] = Math.min(9999, servers.get(i)[4] + 1);
            return isWon;
        }

        long game(int i) {
            if (won == 4) {
                return MILLION;
            }
            if (lost == 4) {
                return 0;
            }
            long p = chance(i);
            return (p * at(won + 1, lost).game(i) + (MILLION - p) * at(won, lost + 1).game(i)) / MILLION;
        }

        World at(int w, int l) {
            World c = copy();
            c.won = w;
            c.lost = l;
            return c;
        }

        World standing(int s) {
            World c = copy();
            c.stance = s;
            return c;
        }
    }

    private World now = new World();
    private World image;
    private final StringBuilder text = new StringBuilder();
    private int courts;
    private List<Integer> trace = new ArrayList<>();
    private final Object[] tapes = new Object[6];

    private static Pattern courtPattern() {
        String test = "[pkfswl][<=>][0-9]{1,2}";
        String f = test;
        for (int level = 4; level > 0; level--) {
            f = "(?:" + test + "|!" + f + "|\\(" + f + "(?:[&|]" + f + ")*\\))";
        }
        String clause = "(?:in|win|out) [0-9]{1,2} " + f + "(?:[&|]" + f + ")*";
        return Pattern.compile(clause + "(?:;" + clause + "){0,9}");
    }

    /** The FAULT, or -1: a text that is the beginning of a COURT makes the pattern ask for more at its end. */
    private static int fault(String t) {
        if (COURT.matcher(t).matches()) {
            return -1;
        }
        for (int end = 1; end <= t.length(); end++) {
            Matcher m = COURT.matcher(t.substring(0, end));
            if (!m.matches() && !m.hitEnd()) {
                return end - 1;
            }
        }
        return t.length();
    }

    private boolean nobody(int server) {
        return server < 0 || server >= now.servers.size();
    }

    private static boolean noForce(int f) {
        return f < 0 || f > 9;
    }

    private static boolean noDraws(int d, int e) {
        return d < 0 || d > 99 || e < 0 || e > 99;
    }

    int server(int kind, int v, int hard, int soft) {
        if (kind < 0 || kind > 6) {
            return NONE;
        }
        if (v < 0 || v > 9 || noForce(hard) || noForce(soft)) {
            return BAD;
        }
        if (now.servers.size() == 4) {
            return FULL;
        }
        now.servers.add(new int[] {kind, v, hard, soft, 0, 0, 0, 0, 0});
        return now.servers.size() - 1;
    }

    int of(int server, int what) {
        if (nobody(server) || what < 0 || what > 6 && what < 10 || what > 29) {
            return NONE;
        }
        if (what < 5) {
            return now.servers.get(server)[what];
        }
        if (what < 7) {
            return what == 5 ? now.first(server) : now.second(server);
        }
        return what < 20 ? now.in(server, what - 10) : now.wins(server, what - 20);
    }

    int set(int server, int what, int n) {
        if (nobody(server) || what < 0 || what > 2) {
            return NONE;
        }
        if (n < 0 || n > (what == 2 ? 9999 : 9)) {
            return BAD;
        }
        int was = now.servers.get(server)[2 + what];
        now.servers.get(server)[2 + what] = n;
        return was;
    }

    int row(int server, int part, int n) {
        if (nobody(server) || part < 0 || part > 3) {
            return NONE;
        }
        if (noForce(n)) {
            return BAD;
        }
        if (now.servers.get(server)[0] != 6) {
            return STATE;
        }
        int was = now.servers.get(server)[5 + part];
        now.servers.get(server)[5 + part] = n;
        return was;
    }

    int feed(int sign) {
        if (sign < 0 || sign > 127) {
            return BAD;
        }
        if (text.length() == 100) {
            return FULL;
        }
        text.append((char) sign);
        return text.length();
    }

    int court() {
        if (courts == 6) {
            return FULL;
        }
        String t = text.toString();
        text.setLength(0);
        int fault = fault(t);
        if (fault != -1) {
            return -10 - fault;
        }
        now.court = t;
        courts++;
        return courts - 1;
    }

    int told(int what) {
        return what == 0 ? now.won : what == 1 ? now.lost : what == 2 ? now.stance : NONE;
    }

    int stance(int n) {
        if (n < 0 || n > 2) {
            return NONE;
        }
        int was = now.stance;
        now.stance = n;
        return was;
    }

    int score(int won, int lost) {
        if (won < 0 || won > 4 || lost < 0 || lost > 4 || won + lost == 8) {
            return BAD;
        }
        now.won = won;
        now.lost = lost;
        return 1;
    }

    int chance(int server, int a, int b) {
        return nobody(server) || noForce(a) || noForce(b) ? NONE : now.chance(server, a, b);
    }

    int faults(int server, int a, int b) {
        return nobody(server) || noForce(a) || noForce(b) ? NONE : now.faults(server, a, b);
    }

    int play(int server, int d, int e) {
        if (nobody(server)) {
            return NONE;
        }
        if (noDraws(d, e)) {
            return BAD;
        }
        if (now.over()) {
            return STATE;
        }
        return now.point(server, d, e) ? 1 : 0;
    }

    int best(int server, int what) {
        if (nobody(server) || what < 0 || what > 1) {
            return NONE;
        }
        int best = 0;
        for (int ab = 0; ab < 100; ab++) {
            if (now.chance(server, ab / 10, ab % 10) > now.chance(server, best / 10, best % 10)) {
                best = ab;
            }
        }
        return what == 0 ? best : now.chance(server, best / 10, best % 10);
    }

    int risk(int server) {
        if (nobody(server)) {
            return NONE;
        }
        int b = 0;
        int first = now.first(server);
        while (b < 10 && now.faults(server, first, b) <= now.faults(server, first, now.second(server))) {
            b++;
        }
        return b < 10 ? b : -5;
    }

    int dare(int server) {
        return nobody(server) ? -1000001
            : now.chance(server, now.first(server), now.first(server)) - now.chance(server);
    }

    int more(int server, int what) {
        if (nobody(server) || what < 0 || what > 1) {
            return -1000001;
        }
        World w = now.copy();
        int[] s = w.servers.get(server);
        if (what == 0) {
            s[2] += s[2] < 9 ? 1 : 0;
            s[3] += s[3] < 9 ? 1 : 0;
        } else {
            s[4] = 0;
        }
        return w.chance(server) - now.chance(server);
    }

    int safe(int server, int q) {
        if (nobody(server)) {
            return NONE;
        }
        if (q < 0 || q > 100) {
            return BAD;
        }
        int safe = -5;
        for (int f = 0; f < 10; f++) {
            safe = now.in(server, f) >= q ? f : safe;
        }
        return safe;
    }

    int stand(int server, int what) {
        if (nobody(server) || what < 0 || what > 1) {
            return NONE;
        }
        int where = 2;
        for (int s = 1; s >= 0; s--) {
            where = now.standing(s).chance(server) <= now.standing(where).chance(server) ? s : where;
        }
        return what == 0 ? where : now.standing(where).chance(server);
    }

    int game(int server, int what) {
        if (nobody(server) || what < 0 || what > 1) {
            return NONE;
        }
        return (int) (what == 0 ? now : now.at(0, 0)).game(server);
    }

    int swing(int server) {
        if (nobody(server)) {
            return -1000001;
        }
        return now.over() ? 0
            : (int) (now.at(now.won + 1, now.lost).game(server) - now.at(now.won, now.lost + 1).game(server));
    }

    private static long match(long clean, long otherClean, int a, int b, int n) {
        if (a == n) {
            return MILLION;
        }
        if (b == n) {
            return 0;
        }
        long c = (a + b) % 2 == 0 ? clean : MILLION - otherClean;
        return (c * match(clean, otherClean, a + 1, b, n)
            + (MILLION - c) * match(clean, otherClean, a, b + 1, n)) / MILLION;
    }

    int match(int one, int other, int n) {
        if (nobody(one) || nobody(other)) {
            return NONE;
        }
        if (one == other || n < 1 || n > 4) {
            return BAD;
        }
        return (int) match(game(one, 1), game(other, 1), 0, 0, n);
    }

    int ahead(int one, int other, int n) {
        int begins = match(one, other, n);
        if (begins < 0) {
            return begins == NONE ? -1000001 : -1000002;
        }
        return begins - (1000000 - match(other, one, n));
    }

    int see(int a, int b) {
        if (a == -1) {
            now.seen.clear();
            return 0;
        }
        if (noForce(a) || noForce(b)) {
            return NONE;
        }
        if (now.seen.size() == 6) {
            return FULL;
        }
        now.seen.add(new int[] {a, b});
        return now.seen.size();
    }

    int who() {
        int bits = 0;
        for (int i = 0; i < now.servers.size(); i++) {
            for (int[] row : now.seen) {
                if (row[0] == now.first(i) && row[1] == now.second(i)) {
                    bits |= 1 << i;
                }
            }
        }
        return bits;
    }

    private static long fraction(long above, long below, int part) {
        if (part < 0 || part > 1) {
            return NO;
        }
        long divisor = BigInteger.valueOf(above).gcd(BigInteger.valueOf(below)).longValue();
        return part == 0 ? above / divisor : below / divisor;
    }

    long odds(int server, int part) {
        if (nobody(server)) {
            return NO;
        }
        long sum = 0;
        for (int s = 0; s < 3; s++) {
            sum += now.standing(s).chance(server);
        }
        return fraction(sum, 3 * MILLION, part);
    }

    long mean(int part) {
        long sum = 0;
        for (int i = 0; i < now.servers.size(); i++) {
            sum += now.game(i);
        }
        return now.servers.isEmpty() ? NO : fraction(sum, now.servers.size(), part);
    }

    int book(int server, int d, int e) {
        if (server == -1) {
            now.book.clear();
            return 0;
        }
        if (nobody(server)) {
            return NONE;
        }
        if (noDraws(d, e)) {
            return BAD;
        }
        if (now.book.size() == 10) {
            return FULL;
        }
        now.book.add(new int[] {server, d, e});
        return now.book.size();
    }

    int looked() {
        World w = now.copy();
        for (int i = 0; i < w.book.size(); i++) {
            w = w.over() ? w.at(0, 0) : w;
            if (!w.point(w.book.get(i)[0], w.book.get(i)[1], w.book.get(i)[2])) {
                return i;
            }
        }
        return -5;
    }

    int judge(int tape, int i) {
        if (tape < 0 || tape > 5) {
            return NONE;
        }
        if (tapes[tape] != null && !(tapes[tape] instanceof short[])) {
            return CAST;
        }
        short[] row = tapes[tape] == null ? new short[0] : (short[]) tapes[tape];
        for (int k = 0; k < now.servers.size(); k++) {
            if (i < 0 || i > 60 || i + k >= row.length) {
                return 100 + k;
            }
            if (row[i + k] != now.servers.get(k)[4]) {
                return k;
            }
        }
        return -5;
    }

    int image() {
        image = now.copy();
        return now.servers.size();
    }

    int undo() {
        if (image == null) {
            return STATE;
        }
        now = image.copy();
        return now.servers.size();
    }

    int act(int server, int act, int x) {
        trace = new ArrayList<>();
        return nobody(server) || act < 0 || act > 2 ? 0 : body(server, now.servers.get(server)[0], act, x);
    }

    /** The body of this KIND, or of the next one above that has one. */
    private int body(int i, int from, int act, int x) {
        int own = now.servers.get(i)[0];
        int v = now.servers.get(i)[1];
        int kind = from;
        while (!has(kind, act)) {
            kind = ABOVE[kind];
        }
        int up = ABOVE[kind];
        switch (kind * 3 + act) {
            case 0: trace.add(10); return x + i;
            case 1: trace.add(11); return body(i, own, 0, x) - v;
            case 2: trace.add(12); return body(i, own, 1, x) * 2;
            case 3 + 1: trace.add(20); return body(i, up, 1, x) ^ 6;
            case 6: trace.add(30); return body(i, up, 0, x * 3);
            case 9 + 2: trace.add(40); return body(i, up, 2, x) + body(i, own, 1, 1);
            case 12: trace.add(50); return -body(i, up, 0, x);
            case 12 + 1: trace.add(51); return body(i, up, 1, x + 1);
            case 15 + 2: trace.add(60); return body(i, up, 2, x - i);
            case 18 + 1: trace.add(70); return body(i, up, 1, x) + body(i, up, 0, 2);
            default: trace.add(71); return body(i, up, 0, x) ^ v;
        }
    }

    private static boolean has(int kind, int act) {
        return new String[] {"012", "1", "0", "2", "01", "2", "01"}[kind].indexOf('0' + act) >= 0;
    }

    int trace(int i) {
        return i >= 0 && i < 20 && i < trace.size() ? trace.get(i) : NONE;
    }

    int taken(int server, int k) {
        if (k < 0 || k > 6) {
            return BAD;
        }
        if (nobody(server)) {
            return NOTHING;
        }
        int own = now.servers.get(server)[0];
        for (int kind = own; kind != -1; kind = ABOVE[kind]) {
            if (kind == k) {
                return own;
            }
        }
        return CAST;
    }

    int count(int what) {
        int[] counts = {now.servers.size(), courts, now.seen.size(), now.book.size(), text.length(), trace.size()};
        return what < 0 || what > 5 ? BAD : counts[what];
    }

    int tape(int tape, int sort, int n) {
        if (tape < 0 || tape > 5) {
            return NONE;
        }
        if (sort < -1 || sort > 4 || sort >= 0 && n > 60) {
            return BAD;
        }
        if (sort >= 0 && n < 0) {
            return SIZE;
        }
        switch (sort) {
            case 0: tapes[tape] = new byte[n]; break;
            case 1: tapes[tape] = new short[n]; break;
            case 2: tapes[tape] = new int[n]; break;
            case 3: tapes[tape] = new long[n]; break;
            case 4: tapes[tape] = new boolean[n]; break;
            default: tapes[tape] = null;
        }
        return 1;
    }

    private static int length(Object row) {
        return row == null ? 0 : java.lang.reflect.Array.getLength(row);
    }

    int item(int tape, int i, long v) {
        if (tape < 0 || tape > 5) {
            return NONE;
        }
        if (tapes[tape] == null) {
            return NOTHING;
        }
        if (i < 0 || i >= length(tapes[tape])) {
            return PLACE;
        }
        if (tapes[tape] instanceof byte[]) {
            ((byte[]) tapes[tape])[i] = (byte) v;
        } else if (tapes[tape] instanceof short[]) {
            ((short[]) tapes[tape])[i] = (short) v;
        } else if (tapes[tape] instanceof int[]) {
            ((int[]) tapes[tape])[i] = (int) v;
        } else if (tapes[tape] instanceof long[]) {
            ((long[]) tapes[tape])[i] = v;
        } else {
            ((boolean[]) tapes[tape])[i] = v != 0;
        }
        return 1;
    }

    long read(int tape, int i) {
        if (tape < 0 || tape > 5 || i < 0 || i >= length(tapes[tape])) {
            return NO;
        }
        Object row = tapes[tape];
        return row instanceof boolean[] ? ((boolean[]) row)[i] ? 1 : 0 : java.lang.reflect.Array.getLong(row, i);
    }

    int shift(int tape, int i, int other, int j, int n) {
        if (tape < 0 || tape > 5 || other < 0 || other > 5) {
            return NONE;
        }
        if (tapes[tape] == null || tapes[other] == null) {
            return NOTHING;
        }
        if (tapes[tape].getClass() != tapes[other].getClass()) {
            return CAST;
        }
        try {
            System.arraycopy(tapes[tape], i, tapes[other], j, n);
            return n;
        } catch (IndexOutOfBoundsException e) {
            return PLACE;
        }
    }
}
