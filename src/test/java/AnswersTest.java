import java.io.IOException;
import java.util.Arrays;
import java.util.function.Supplier;
import java.util.function.ToLongFunction;

/** The document's "Answers" and "Details", sentence by sentence: what is refused, and that it changes nothing. */
public final class AnswersTest {
    private static final Due DUE = new Due();
    private static final int NONE = NestedFoci.NONE;
    private static final int BAD = NestedFoci.BAD;
    private static final int STATE = NestedFoci.STATE;
    private static final int FULL = NestedFoci.FULL;
    private static final int MADE = NestedFoci.MADE;
    private static final int[] FAR = {-1, Integer.MIN_VALUE, Integer.MAX_VALUE};

    public static void main(String[] args) throws IOException {
        Sentences s = new Sentences(DUE, "Answers:", "## Promise 1:");
        s.say("Answers: NONE (-1) no such;", AnswersTest::none);
        s.say("BAD (-2) a number is not as told;", AnswersTest::bad);
        s.say("STATE (-3) as told;", AnswersTest::state);
        s.say("FULL (-4): HEIGHT, NODES, sizes would be more than may be.", AnswersTest::full);
        s.say("What is answered so changes nothing.", AnswersTest::changesNothing);
        s.say("NO: Long.MIN_VALUE.", AnswersTest::no);
        s.say("Details. An OVER that puts THE SAME THING as was there makes nothing anew.", AnswersTest::theSameAgain);
        s.say("If both would be, MADE is told, not FULL.", AnswersTest::madeNotFull);
        s.say("Of like greatest ones of a FOLD the first.", AnswersTest::likeGreatest);
        s.end();
        DUE.end();
    }

    private static void none() {
        DUE.is("NONE", NestedFoci.NONE, -1);
        NestedFoci x = Due.with("[1,(2,2),{a:3}]", "*");
        for (int k : FAR) {
            DUE.is("take " + k, x.take(1, 0, 0, k), -1);
            DUE.is("key of " + k, x.key(0, 0, k, 0), -1);
            DUE.is("key " + k, x.key(0, 0, 2, k), -1);
            DUE.is("best " + k, x.best(0, 0, 0, k), -1);
            DUE.is("differ " + k, x.differ(0, 1, k), k == -1 ? 1 : -1);
        }
        DUE.is("take 2", x.take(1, 0, 0, 2), 2);
        DUE.is("take 3", x.take(2, 0, 0, 3), -1);
        DUE.is("key 0 of 2", x.key(0, 0, 2, 0), 1);
        DUE.is("key 1 of 2", x.key(0, 0, 2, 1), -1);
        DUE.is("key 0 of 1", x.key(0, 0, 1, 0), -1);
        DUE.is("key 0 of 3", x.key(0, 0, 3, 0), -1);
        DUE.is("best 2", x.best(0, 0, 0, 2), 2);
        DUE.is("best 3", x.best(0, 0, 0, 3), -1);
        DUE.is("differ 0", x.differ(0, 2, 0), 0);
        DUE.is("differ 1", x.differ(0, 2, 1), -1);
    }

    private static void bad() {
        DUE.is("BAD", NestedFoci.BAD, -2);
        Calls.areBad(DUE, "");
    }

    private static void state() {
        DUE.is("STATE", NestedFoci.STATE, -3);
        NestedFoci x = Due.with("{a:1}", "");
        DUE.is("put into a NUMBER", x.put(2, 2, 1, 0, 0), -3);
        for (String text : new String[] {"(1,2)", "[1]", "[]", "#1{}"}) {
            Due.thing(x, 1, text);
            DUE.is("put into " + text, x.put(2, 2, 1, 0, 0), -3);
        }
        DUE.is("put into a MAP", x.put(2, 2, 0, 1, 0), 3);
        DUE.is("undo 2", x.undo(2), 0);
        DUE.is("undo 2 again", x.undo(2), -3);
        DUE.is("undo 11", x.undo(11), -3);
        DUE.is("back", x.back(), -3);
        DUE.is("image", x.image(), 2 + 2 + 10);
        DUE.is("back then", x.back(), 14);
    }

    private static void full() {
        DUE.is("FULL", NestedFoci.FULL, -4);
        NestedFoci x = Due.with("[".repeat(12) + "1" + "]".repeat(12), "");
        DUE.is("over beyond HEIGHT 12", x.over(1, 0, 0, 6, 0), -4);
        DUE.is("put beyond HEIGHT 12", x.put(1, 0, 0, 0, 0), -4);
        Due.thing(x, 2, "[1,2]");
        Due.path(x, 1, "*");
        DUE.is("fit beyond HEIGHT 12", x.fit(2, 1, 0), -4);
        NestedFoci y = Due.with("[1,1,1,1,1,1,1,1,1,1,1]", "*");
        for (int i = 0; i < 3; i++) {
            y.put(0, 1, 0, 0, 0);
        }
        DUE.is("103 NODES", y.look(0, 7, 0, 2), 103);
        DUE.is("put beyond 200 NODES", y.put(1, 1, 0, 0, 0), -4);
        DUE.is("fit beyond 200 NODES", y.fit(0, 0, 0), -4);
        DUE.is("over beyond 200 NODES", y.over(1, 0, 0, 7, 0), -4);
        NestedFoci z = Due.with("{a:1,b:1,c:1,d:1,e:1,f:1,g:1,h:1,i:1,j:1,k:1,l:1}", "********");
        DUE.is("put beyond 12 KEYS", z.put(0, 2, 0, 1, 25), -4);
        Due.path(z, 1, "*");
        DUE.is("join beyond 8 STEPS", z.join(1, 0), -4);
        DUE.is("join beyond 8 STEPS", z.join(0, 1), -4);
        for (int i = 0; i < 25; i++) {
            z.feed(4, 0);
        }
        DUE.is("feed beyond 100 bytes", z.feed(1, 0), -4);
    }

    /** An object with something everywhere: on SHELVES, remembered, in PATHS, on THE TAPE, in an image. */
    private static NestedFoci busy() {
        NestedFoci x = Due.with("[1,(2,3),{a:4,b:[5]},#6[]]", "*");
        Due.path(x, 1, "%");
        Due.path(x, 2, "*$b.*");
        Due.path(x, 3, "********");
        x.over(1, 0, 0, 4, 7);
        Due.thing(x, 2, "{a:1,b:1,c:1,d:1,e:1,f:1,g:1,h:1,i:1,j:1,k:1,l:1}");
        Due.thing(x, 3, "[".repeat(12) + "1" + "]".repeat(12));
        x.image();
        x.take(4, 0, 0, 2);
        x.put(5, 1, 2, 2, 0);
        x.put(5, 1, 5, 5, 0);
        x.put(5, 1, 5, 5, 0);
        for (int i = 0; i < 11; i++) {
            x.over(6, 6, 7, 3 - i % 2, i);
        }
        Due.path(x, 2, "~");
        Due.feed(x, "[1,2");
        return x;
    }

    /** THE TAPE has so many bytes, which tell a THING: whatever came behind them would be a FAULT. */
    private static Supplier<NestedFoci> withTape(int bytes) {
        String text = "[" + "[111111,222222,333333],".repeat(4) + "123456".substring(0, bytes - 94) + "]";
        return () -> {
            NestedFoci x = busy();
            x.path(7);
            Due.feed(x, text);
            return x;
        };
    }

    private static void refused(String call, ToLongFunction<NestedFoci> asked, long answer) {
        Probe.unchanged(DUE, call, AnswersTest::busy, asked, answer, 0);
    }

    private static void changesNothing() {
        for (Calls c : Calls.all()) {
            for (int[] a : c.bad()) {
                refused(c.name + Arrays.toString(a), x -> c.ask(x, a), BAD);
            }
        }
        refused("take of no FOCUS", x -> x.take(4, 0, 0, 4), NONE);
        refused("take of no FOCUS into its own", x -> x.take(0, 0, 0, -1), NONE);
        refused("key of no MAP", x -> x.key(0, 0, 1, 0), NONE);
        refused("best of no FOCUS", x -> x.best(0, 0, 0, 4), NONE);
        refused("differ of none", x -> x.differ(0, 1, 99), NONE);
        refused("look at no FOCUS", x -> x.look(0, 0, 4, 0), NestedFoci.NO);
        refused("fold by no code", x -> x.fold(0, 0, 7), NestedFoci.NO);
        refused("undo of nothing", x -> x.undo(11), STATE);
        refused("put into no MAP", x -> x.put(4, 2, 0, 2, 0), STATE);
        Probe.unchanged(DUE, "back to no image", () -> Due.with("[1]", "*"), x -> x.back(), STATE, 0);
        refused("put of a 13th", x -> x.put(2, 2, 2, 0, 12), FULL);
        refused("put that is too high", x -> x.put(3, 0, 3, 3, 0), FULL);
        refused("put that is too large", x -> x.put(5, 0, 5, 5, 0), FULL);
        refused("join of too many", x -> x.join(3, 0), FULL);
        refused("join of too many behind", x -> x.join(0, 3), FULL);
        for (int bytes = 97; bytes <= 100; bytes++) {
            Supplier<NestedFoci> maker = withTape(bytes);
            for (int n = 101 - bytes; n <= 4; n++) {
                int more = n;
                Probe.unchanged(DUE, "feed of " + n + " behind " + bytes, maker, x -> x.feed(more, 'b'), FULL, 0);
            }
        }
        // an OVER that is FULL has made what it has made
        Probe.unchanged(DUE, "over that is too high", AnswersTest::busy, x -> x.over(3, 3, 7, 5, 1), FULL, 1);
        Probe.unchanged(DUE, "over that is too large", AnswersTest::busy, x -> x.over(5, 5, 1, 4, 1), FULL, 2 * 96 + 15);
        Probe.unchanged(DUE, "fit that is too large", AnswersTest::busy, x -> x.fit(5, 0, 5), FULL, 1);
        madeChangesNothing();
    }

    /** MADE isn't told among these, yet but for what it says of THE TAPE and of what is counted, all stays. */
    private static void madeChangesNothing() {
        Supplier<NestedFoci> maker = () -> DUE.spent(2999);
        Probe.unchanged(DUE, "over that is MADE", maker, x -> x.over(0, 0, 7, 0, 1), MADE, 1);
        Probe.unchanged(DUE, "fit that is MADE", maker, x -> x.fit(0, 7, 3), MADE, 1);
        Supplier<NestedFoci> all = () -> DUE.spent(3000);
        Probe.unchanged(DUE, "put that is MADE", all, x -> x.put(0, 0, 3, 3, 0), MADE, 0);
        Supplier<NestedFoci> told = () -> {
            NestedFoci x = DUE.spent(3000);
            Due.feed(x, "1");
            return x;
        };
        NestedFoci x = told.get();
        int remembered = x.count(0);
        DUE.is("thing that is MADE", x.thing(0), MADE);
        DUE.is("becomes nothing", x.count(0), remembered);
        DUE.is("THE TAPE is empty then", x.count(20), 0);
    }

    private static void no() {
        DUE.is("NO", NestedFoci.NO, Long.MIN_VALUE);
        NestedFoci x = Due.with("[]", "*");
        DUE.is("look at no FOCUS", x.look(0, 0, 0, 0), Long.MIN_VALUE);
        DUE.is("fold of no FOCI", x.fold(0, 0, 2), Long.MIN_VALUE);
        x.over(1, 1, 1, 0, Integer.MIN_VALUE);
        DUE.is("a NUMBER is never NO", x.look(1, 1, 0, 1), Integer.MIN_VALUE);
        DUE.is("a sum is never NO", x.fold(1, 1, 1), Integer.MIN_VALUE);
    }

    private static void theSameAgain() {
        NestedFoci x = Due.with("[1,(2,3),[4,4]]", "*");
        Due.path(x, 1, "/1");
        x.take(1, 0, 0, 1);
        int before = x.count(21);
        DUE.is("over by what is there", x.over(2, 0, 1, 7, 1), 1);
        DUE.is("made", x.count(21), before);
        DUE.is("it is THE SAME THING", x.shared(2, 0), 1);
        DUE.is("yet the SHELF became it", x.count(2), 1);
        DUE.is("fit by what is there", x.fit(0, 1, 1), 7);
        DUE.is("made by fit", x.count(21), before);
        DUE.is("over by itself", x.over(0, 0, 7, 7, 0), 1);
        DUE.is("made by itself", x.count(21), before);
        // at one place it is there, at others it isn't
        DUE.is("over by what is there once", x.over(3, 0, 0, 7, 1), 3);
        DUE.is("made around the others", x.count(21), before + 1);
        x.put(4, 1, 1, 1, 0);
        before = x.count(21);
        DUE.is("over by what is there twice", x.over(5, 4, 0, 7, 1), 2);
        DUE.is("made by none", x.count(21), before);
        DUE.is("with nothing left to make", DUE.spent(3000).over(1, 0, 6, 7, 0), 1);
    }

    private static void madeNotFull() {
        // SHELF 0 has 143 NODES, 64 of them NUMBERS: to put it twice is too much, whatever is left
        DUE.is("put that is FULL, one left", DUE.spent(2999).put(5, 1, 0, 0, 0), FULL);
        DUE.is("put that is both", DUE.spent(3000).put(5, 1, 0, 0, 0), MADE);
        // PAIRS of the NUMBERS: two for each, and the 79 around them
        DUE.is("over that is FULL, just as many left", DUE.spent(3000 - 207).over(5, 0, 7, 4, 0), FULL);
        DUE.is("over that is both", DUE.spent(3000 - 206).over(5, 0, 7, 4, 0), MADE);
        DUE.is("over that is both, none left", DUE.spent(3000).over(5, 0, 7, 4, 0), MADE);
        DUE.is("fit that is FULL, just as many left", DUE.spent(3000 - 79).fit(0, 7, 0), FULL);
        DUE.is("fit that is both", DUE.spent(3000 - 78).fit(0, 7, 0), MADE);
    }

    private static void likeGreatest() {
        NestedFoci x = Due.with("[1,9,9,2,9]", "*");
        DUE.is("the first of three", x.fold(0, 0, 2), 1);
        Due.thing(x, 0, "[(1,2),[0],[0],[]]");
        DUE.is("the first of two", x.fold(0, 0, 2), 1);
        Due.thing(x, 0, "[{},{},{}]");
        DUE.is("the first of all", x.fold(0, 0, 2), 0);
        Due.thing(x, 0, "[{},{},{a:1}]");
        DUE.is("the greatest is the last", x.fold(0, 0, 2), 2);
    }
}
