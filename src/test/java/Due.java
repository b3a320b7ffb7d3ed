import java.nio.charset.StandardCharsets;

/** Counts answers that are due and those that are not; tells texts to an object. */
final class Due {
    private int right = 0;
    private int wrong = 0;

    void is(String call, long got, long want) {
        if (got == want) {
            right++;
            return;
        }
        wrong++;
        if (wrong <= 40) {
            System.out.println(call + " answered " + got + ", due is " + want);
        }
    }

    /** Ends the program with exit code 1 if an answer was wrong. */
    void end() {
        System.out.println(right + " answers as due, " + wrong + " not");
        if (wrong != 0 || right == 0) {
            System.exit(1);
        }
    }

    static void feed(NestedFoci x, String text) {
        byte[] bytes = text.getBytes(StandardCharsets.ISO_8859_1);
        for (int at = 0; at < bytes.length; at += 4) {
            int n = Math.min(4, bytes.length - at);
            x.feed(n, word(bytes, at, n));
        }
    }

    static int word(byte[] bytes, int at, int n) {
        int word = 0;
        for (int i = 0; i < n; i++) {
            word |= (bytes[at + i] & 255) << (8 * i);
        }
        return word;
    }

    static int thing(NestedFoci x, int shelf, String text) {
        feed(x, text);
        return x.thing(shelf);
    }

    static int path(NestedFoci x, int path, String text) {
        feed(x, text);
        return x.path(path);
    }

    /** An object with one THING told on SHELF 0 and one PATH told as PATH 0. */
    static NestedFoci with(String thing, String path) {
        NestedFoci x = new NestedFoci();
        thing(x, 0, thing);
        path(x, 0, path);
        return x;
    }

    /** Whether the SHELF holds what this text tells: tried on SHELF 11, which is as before then. */
    void holds(String call, NestedFoci x, int shelf, String text) {
        int nodes = thing(x, 11, text);
        is(call + ", then the text " + text, nodes > 0 ? 1 : 0, 1);
        is(call + ", then ALIKE " + text, x.order(shelf, 11), 0);
        x.undo(11);
    }

    /** An object whose calls have made so many THINGS: 197 a call, then one by one. */
    NestedFoci spent(int made) {
        NestedFoci x = new NestedFoci();
        thing(x, 0, "[1,1,1,1,1,1,1,1]");
        path(x, 7, "%");
        x.over(0, 0, 7, 6, 0);
        x.put(0, 1, 0, 0, 0);
        x.put(0, 1, 0, 0, 0);
        x.put(0, 1, 0, 0, 0);
        for (int i = 0; i < 100 && x.count(21) + 143 <= made; i++) {
            x.over(1, 0, 7, 0, 1);
        }
        for (int i = 0; i < 200 && x.count(21) < made; i++) {
            x.put(2, 0, 3, 3, 0);
        }
        is("made beforehand", x.count(21), made);
        return x;
    }
}
