import java.util.ArrayList;
import java.util.List;
import java.util.function.Supplier;
import java.util.function.ToLongFunction;

/**
 * Two objects made alike: one of them gets a call more, and if this was refused, or only asked, then all that the two
 * are asked afterwards is answered alike. Making one, asking it all and a few calls between are below 512 calls.
 */
final class Twins {
    private static final long UNLIKE_IN_EACH_SORT = 0x180818283L;

    private final Check check;

    Twins(Check check) {
        this.check = check;
    }

    /** An object that holds something of all that can be held, none of it as at first, and another THE IMAGE. */
    static TwoServes scene() {
        TwoServes x = new TwoServes();
        x.server(0, 1, 8, 2);
        x.server(4, 3, 7, 5);
        x.server(5, 2, 6, 4);
        x.server(6, 9, 9, 3);
        for (int part = 0; part < 4; part++) {
            x.row(3, part, 2 + part);
        }
        x.set(0, 2, 11);
        x.set(3, 2, 6);
        Courts.court(x, "win 5 f=8");
        x.score(1, 0);
        x.see(8, 2);
        x.book(0, 46, 80);
        x.image();
        Courts.court(x, "out 9 f>6;win 7 w=2&s=2");
        x.score(2, 1);
        x.stance(2);
        x.set(0, 0, 5);
        x.set(2, 1, 1);
        x.row(3, 2, 0);
        x.see(5, 2);
        x.see(1, 1);
        x.book(-1, 0, 0);
        x.book(1, 0, 0);
        x.book(3, 99, 99);
        tapes(x);
        x.act(3, 2, 7);
        Courts.feed(x, "in 9 f");
        return x;
    }

    /** TAPES 0 .. 4 of sort 0 .. 4, five long at most; TAPE 5 holds nothing. */
    private static void tapes(TwoServes x) {
        for (int tape = 0; tape < 5; tape++) {
            x.tape(tape, tape, 5 - tape);
            x.item(tape, 0, 1);
        }
        x.item(1, 0, 11);
        x.item(1, 3, 6);
    }

    void refused(String name, long due, ToLongFunction<TwoServes> call) {
        refused(name, Twins::scene, due, call);
    }

    void refused(String name, Supplier<TwoServes> made, long due, ToLongFunction<TwoServes> call) {
        TwoServes x = made.get();
        check.due(name, call.applyAsLong(x), due);
        alike(name + " changes nothing", x, made.get());
    }

    /** A call that asks: twice the same answer, and nothing is changed. */
    void asked(String name, ToLongFunction<TwoServes> call) {
        TwoServes x = scene();
        long answer = call.applyAsLong(x);
        check.due(name + " again", call.applyAsLong(x), answer);
        alike(name + " changes nothing", x, scene());
    }

    void alike(String name, TwoServes one, TwoServes other) {
        List<String> ones = all(one);
        List<String> others = all(other);
        for (int i = 0; i < ones.size(); i++) {
            if (!ones.get(i).equals(others.get(i))) {
                check.that(name + ", but " + ones.get(i) + " was " + others.get(i), false);
                return;
            }
        }
        check.that(name, ones.size() == others.size());
    }

    /** All that an object can be asked; it is used up by that, as some of it is only seen by what later calls do. */
    private static List<String> all(TwoServes x) {
        List<String> all = new ArrayList<>();
        imaged(all, x);
        for (int i = 0; i < 13; i++) {
            put(all, "trace " + i, x.trace(i));
        }
        put(all, "courts", x.count(1));
        put(all, "text", x.count(4));
        put(all, "bodies", x.count(5));
        for (int tape = 0; tape < 6; tape++) {
            for (int i = 0; i < 6; i++) {
                put(all, "item " + i + " of tape " + tape, x.read(tape, i));
            }
            put(all, "an item of tape " + tape, x.item(tape, 0, UNLIKE_IN_EACH_SORT));
            put(all, "the sort of tape " + tape, x.read(tape, 0));
        }
        for (int part = 0; part < 16; part++) {
            put(all, "part " + part + " of the rows", x.row(part / 4, part % 4, 0));
        }
        put(all, "from 0, 0 on", x.score(0, 0));
        put(all, "looked from 0, 0 on", x.looked());
        put(all, "the text goes on", x.feed('='));
        put(all, "and on", x.feed('8'));
        put(all, "a court", x.court());
        put(all, "its 8", x.of(0, 18));
        put(all, "undo", x.undo());
        imaged(all, x);
        return all;
    }

    private static void imaged(List<String> all, TwoServes x) {
        for (int what : new int[] {0, 2, 3}) {
            put(all, "count " + what, x.count(what));
        }
        for (int what = 0; what < 3; what++) {
            put(all, "told " + what, x.told(what));
        }
        for (int server = 0; server < 4; server++) {
            for (int what = 0; what < 30; what += what == 6 ? 4 : 1) {
                put(all, "of " + server + ", " + what, x.of(server, what));
            }
        }
        put(all, "who", x.who());
        put(all, "looked", x.looked());
    }

    private static void put(List<String> all, String name, long answer) {
        all.add(name + ": " + answer);
    }
}
