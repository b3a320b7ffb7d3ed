import java.nio.charset.StandardCharsets;

/** Counts answers that are due and those that are not; tells texts to an object. */
final class Due {
    private int right = 0;
    private int wrong = 0;

    void is(String call, long got, long want) {
        if (got == want) {
            right++;
            return;
        }
        wrong++;
        if (wrong <= 40) {
            System.out.println(call + " answered " + got + ", due is " + want);
        }
    }

    int answers() {
        return right + wrong;
    }

    int wrongAnswers() {
        return wrong;
    }

    /** Ends the program with exit code 1 if an answer was wrong. */
    void end() {
        System.out.println(right + " answers as due, " + wrong + " not");
        if (wrong != 0 || right == 0) {
            System.exit(1);
        }
    }

    static void feed(NestedFoci x, String text) {
        byte[] bytes = text.getBytes(StandardCharsets.ISO_8859_1);
        for (int at = 0; at < bytes.length; at += 4) {
            int n = Math.min(4, bytes.length - at);
            x.feed(n, word(bytes, at, n));
        }
    }

    static int word(byte[] bytes, int at, int n) {
        int word = 0;
        for (int i = 0; i < n; i++) {
            word |= (bytes[at + i] & 255) << (8 * i);
        }
        return word;
    }

    static int thing(NestedFoci x, int shelf, String text) {
        feed(x, text);
        return x.thing(shelf);
    }

    static int path(NestedFoci x, int path, String text) {
        feed(x, text);
        return x.path(path);
    }

    /** An object with one THING told on SHELF 0 and one PATH told as PATH 0. */
    static NestedFoci with(String thing, String path) {
        NestedFoci x = new NestedFoci();
        thing(x, 0, thing);
        path(x, 0, path);
        return x;
    }

    /** This text is a THING of so many NODES. */
    void reads(String text, int nodes) {
        is("thing " + text, thing(new NestedFoci(), 0, text), nodes);
    }

    /** This text is no THING, the FAULT is at this place; it is the only thing that is told to an object. */
    void failsAt(String text, int place) {
        is("thing " + text, thing(new NestedFoci(), 0, text), -100 - place);
    }

    /** This text is a PATH of so many STEPS. */
    void leads(String text, int steps) {
        is("path " + text, path(new NestedFoci(), 0, text), steps);
    }

    void pathFailsAt(String text, int place) {
        is("path " + text, path(new NestedFoci(), 0, text), -100 - place);
    }

    /** The FOCI of a PATH in a THING, in their order: each is taken and compared with its text. */
    void foci(String thing, String path, String... texts) {
        NestedFoci x = with(thing, path);
        String call = "foci of " + path + " in " + thing;
        is(call, x.fold(0, 0, 0), texts.length);
        for (int k = 0; k < texts.length; k++) {
            x.take(1, 0, 0, k);
            holds(call + " " + k, x, 1, texts[k]);
        }
        is(call + ", none behind", x.take(1, 0, 0, texts.length), NestedFoci.NONE);
    }

    /** OVER from SHELF 0 to SHELF 1 by PATH 0: how many FOCI, how many are made, what the SHELF becomes. */
    void over(String thing, String path, int how, int n, int foci, int made, String becomes) {
        NestedFoci x = with(thing, path);
        int before = x.count(21);
        String call = "over " + path + " how " + how + " n " + n + " of " + thing;
        is(call, x.over(1, 0, 0, how, n), foci);
        is(call + ", made", x.count(21) - before, made);
        is(call + ", remembers", x.count(1), 1);
        holds(call, x, 1, becomes);
        holds(call + ", from", x, 0, thing);
    }

    /** The FOLDS by the codes from 0 on. */
    void folds(String thing, String path, long... due) {
        NestedFoci x = with(thing, path);
        for (int code = 0; code < due.length; code++) {
            is("fold " + code + " of " + path + " in " + thing, x.fold(0, 0, code), due[code]);
        }
    }

    /** The places of all that is just in a ROW or MAP by an ORDER, BEST 0 first. */
    void best(String thing, int order, int... places) {
        NestedFoci x = with(thing, "*");
        for (int n = 0; n < places.length; n++) {
            is("best " + n + " by " + order + " of " + thing, x.best(0, 0, order, n), places[n]);
        }
        is("best behind the last of " + thing, x.best(0, 0, order, places.length), NestedFoci.NONE);
        is("best -1 of " + thing, x.best(0, 0, order, -1), NestedFoci.NONE);
    }

    /** How p and q are ORDERED, asked both ways. */
    void ordered(String p, String q, int way) {
        NestedFoci x = new NestedFoci();
        thing(x, 0, p);
        thing(x, 1, q);
        is("order " + p + " " + q, x.order(0, 1), way);
        is("order " + q + " " + p, x.order(1, 0), -way);
    }

    /** The DIFFERENCE of p and q: where each edit is, and none behind the last. */
    void differ(String p, String q, int... places) {
        NestedFoci x = new NestedFoci();
        thing(x, 0, p);
        thing(x, 1, q);
        String call = "differ " + p + " " + q;
        is(call, x.differ(0, 1, -1), places.length);
        for (int k = 0; k < places.length; k++) {
            is(call + " " + k, x.differ(0, 1, k), places[k]);
        }
        for (int k : new int[] {places.length, -2, Integer.MIN_VALUE, Integer.MAX_VALUE}) {
            is(call + " " + k, x.differ(0, 1, k), NestedFoci.NONE);
        }
    }

    /** FIT of a PATH for a THING and w, and how many both OVERS make; all else stays as it is. */
    void fit(String thing, String path, String w, int laws, int made) {
        NestedFoci x = with(thing, path);
        thing(x, 1, w);
        int before = x.count(21);
        String call = "fit of " + path + " for " + thing + " and " + w;
        is(call, x.fit(0, 0, 1), laws);
        is(call + ", made", x.count(21) - before, made);
        holds(call + " changes nothing", x, 0, thing);
        is(call + " remembers nothing", x.count(0), 1);
    }

    /** Whether the SHELF holds what this text tells: tried on SHELF 11, which is as before then. */
    void holds(String call, NestedFoci x, int shelf, String text) {
        int nodes = thing(x, 11, text);
        is(call + ", then the text " + text, nodes > 0 ? 1 : 0, 1);
        is(call + ", then ALIKE " + text, x.order(shelf, 11), 0);
        x.undo(11);
    }

    /** An object whose calls have made so many THINGS: 197 a call, then one by one. */
    NestedFoci spent(int made) {
        NestedFoci x = new NestedFoci();
        thing(x, 0, "[1,1,1,1,1,1,1,1]");
        path(x, 7, "%");
        x.over(0, 0, 7, 6, 0);
        x.put(0, 1, 0, 0, 0);
        x.put(0, 1, 0, 0, 0);
        x.put(0, 1, 0, 0, 0);
        for (int i = 0; i < 100 && x.count(21) + 143 <= made; i++) {
            x.over(1, 0, 7, 0, 1);
        }
        for (int i = 0; i < 200 && x.count(21) < made; i++) {
            x.put(2, 0, 3, 3, 0);
        }
        is("made beforehand", x.count(21), made);
        return x;
    }
}
