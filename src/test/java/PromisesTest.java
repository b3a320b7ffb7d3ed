import java.io.IOException;
import java.util.function.ToLongFunction;

/** The document's promises 1 to 20, sentence by sentence. */
public final class PromisesTest {
    private static final Due DUE = new Due();
    private static final int NONE = NestedFoci.NONE;
    private static final int BAD = NestedFoci.BAD;
    private static final int STATE = NestedFoci.STATE;
    private static final int FULL = NestedFoci.FULL;
    private static final int MADE = NestedFoci.MADE;
    private static final long NO = NestedFoci.NO;
    private static final int[] NO_SHELF = {-1, 12, Integer.MIN_VALUE, Integer.MAX_VALUE};
    private static final int[] NO_PATH = {-1, 8, Integer.MIN_VALUE, Integer.MAX_VALUE};
    private static final int[] NO_PLACE = {-1, Integer.MIN_VALUE, Integer.MAX_VALUE};
    private static final String[] NAMES = {"A new object", "feed", "thing", "path", "join", "over", "put", "take", "undo",
        "look", "key", "fold", "best", "order", "shared", "differ", "fit", "image", "back", "count"};

    public static void main(String[] args) throws IOException {
        Sentences s = new Sentences(DUE, "## Promise 1:", "## Not promised");
        for (int i = 1; i <= NAMES.length; i++) {
            s.heading("## Promise " + i + ": " + NAMES[i - 1]);
        }
        sayTelling(s);
        sayChanges(s);
        sayLooks(s);
        sayTwoThings(s);
        sayKeeping(s);
        s.end();
        DUE.end();
    }

    private static void sayTelling(Sentences s) {
        s.say("`NestedFoci()`: SHELVES hold NUMBER 0.", PromisesTest::newObject);
        s.say("`int feed(int n, int word)`: n bytes (1 .. 4) of word, the lowest first, come behind THE TAPE: how many "
            + "it has.", PromisesTest::feed);
        s.say("BAD; FULL.", PromisesTest::feedTrouble);
        s.say("`int thing(int shelf)`: THE TAPE, empty then (by a FAULT, too), is a THING: a SHELF becomes it: its NODES;",
            PromisesTest::thing);
        s.say("-100 less the FAULT.", PromisesTest::thingFault);
        s.say("BAD: shelf (THE TAPE stays);", PromisesTest::thingBad);
        s.say("MADE.", PromisesTest::thingMade);
        s.say("`int path(int path)`: THE TAPE, empty then (by a FAULT, too), is a PATH: how many STEPS (8 at most: the "
            + "9th's first byte is the FAULT);", PromisesTest::path);
        s.say("-100 less the FAULT.", PromisesTest::pathFault);
        s.say("BAD: path (THE TAPE stays).", PromisesTest::pathBad);
        s.say("`int join(int path, int other)`: A PATH goes on by another one's STEPS: how many it has.",
            PromisesTest::join);
        s.say("BAD; FULL: more than 8.", PromisesTest::joinTrouble);
    }

    private static void sayChanges(Sentences s) {
        s.say("`int over(int shelf, int from, int path, int how, int n)`: OVER: a SHELF becomes what comes of another "
            + "one: how many FOCI there were.", PromisesTest::over);
        s.say("BAD: shelves, path, how (0 .. 11), n (by 5: 0 .. 9, by 7: a SHELF);", PromisesTest::overBad);
        s.say("FULL; MADE.", PromisesTest::overTrouble);
        s.say("`int put(int shelf, int what, int a, int b, int n)`: A SHELF becomes a PAIR (what 0), a ROW (1) of what "
            + "is in two SHELVES;", PromisesTest::put);
        s.say("or a MAP (2) as that in a, with KEY number n (0 a, 1 b, .. 25 z) for what is in b (n does not matter by "
            + "0, 1): its NODES.", PromisesTest::putKey);
        s.say("BAD;", PromisesTest::putBad);
        s.say("STATE: by 2, a holds no MAP;", PromisesTest::putState);
        s.say("FULL; MADE.", PromisesTest::putTrouble);
        s.say("`int take(int shelf, int from, int path, int k)`: A SHELF becomes FOCUS k of a PATH in what another one "
            + "holds: its NODES.", PromisesTest::take);
        s.say("BAD: shelves, path;", PromisesTest::takeBad);
        s.say("NONE: no FOCUS k.", PromisesTest::takeNone);
        s.say("`int undo(int shelf)`: A SHELF is undone: how many it remembers still.", PromisesTest::undo);
        s.say("BAD; STATE: none.", PromisesTest::undoTrouble);
    }

    private static void sayLooks(Sentences s) {
        s.say("`long look(int shelf, int path, int k, int what)`: Of FOCUS k: what it is (what 0): 0 a NUMBER, 1 a "
            + "PAIR, 2 a ROW, 3 a MAP, 4 TAGGED;", PromisesTest::lookKind);
        s.say("its NUMBER, how many are just in it, its TAG (1);", PromisesTest::lookWord);
        s.say("NODES (2);", PromisesTest::lookNodes);
        s.say("HEIGHT (3).", PromisesTest::lookHeight);
        s.say("NO: no shelf, path, FOCUS, what.", PromisesTest::lookNo);
        s.say("`int key(int shelf, int path, int k, int i)`: KEY number i (from 0) of FOCUS k, a MAP: its letters as "
            + "digits of 27 (a 1, z 26; the first the highest).", PromisesTest::key);
        s.say("NONE: no shelf, path, FOCUS, MAP, KEY.", PromisesTest::keyNone);
        s.say("`long fold(int shelf, int path, int code)`: FOLDS.", PromisesTest::fold);
        s.say("NO: shelf, path, code, no FOCI (codes 2, 3, 5).", PromisesTest::foldNo);
        s.say("`int best(int shelf, int path, int order, int n)`: BEST n (from 0) by an ORDER (0 .. 2): its place "
            + "among FOCI.", PromisesTest::best);
        s.say("NONE: no such;", PromisesTest::bestNone);
        s.say("BAD: shelf, path, order.", PromisesTest::bestBad);
    }

    private static void sayTwoThings(Sentences s) {
        s.say("`int order(int a, int b)`: How two SHELVES' THINGS are ORDERED: -1 the first is ahead, 0 ALIKE, 1.",
            PromisesTest::order);
        s.say("BAD (-2).", PromisesTest::orderBad);
        s.say("`int shared(int a, int b)`: SHARED. BAD.", PromisesTest::shared);
        s.say("`int differ(int a, int b, int k)`: DIFFERENCE: how many (k -1); where the k-th is.",
            PromisesTest::differ);
        s.say("BAD; NONE: no k-th.", PromisesTest::differTrouble);
        s.say("`int fit(int shelf, int path, int w)`: FIT of a PATH for what is in a SHELF, and in another one (w).",
            PromisesTest::fit);
        s.say("BAD; FULL, MADE by either OVER.", PromisesTest::fitTrouble);
    }

    private static void sayKeeping(Sentences s) {
        s.say("`int image()`: AN IMAGE is kept: all NODES on SHELVES, together.", PromisesTest::image);
        s.say("`int back()`: All that it keeps is as then: likewise.", PromisesTest::back);
        s.say("STATE: there is none.", PromisesTest::backState);
        s.say("`int count(int what)`: How many: 0 .. 11 a SHELF remembers, 12 .. 19 STEPS of a PATH, 20 bytes on THE "
            + "TAPE, 21 made in all.", PromisesTest::count);
        s.say("BAD.", PromisesTest::countBad);
    }

    /** What a call changes is told by the document, and this one changes nothing. */
    private static void asks(String call, ToLongFunction<NestedFoci> asked, long answer) {
        Probe.unchanged(DUE, call, PromisesTest::some, asked, answer, 0);
    }

    private static NestedFoci some() {
        NestedFoci x = Due.with("[1,(2,3),{a:4,b:[5]},#6[]]", "*");
        Due.path(x, 1, "%");
        Due.path(x, 5, "*$b.*");
        x.image();
        x.over(1, 0, 0, 4, 7);
        x.take(2, 0, 0, 2);
        x.over(3, 0, 1, 0, 1);
        Due.feed(x, "[1,2]");
        return x;
    }

    // ---- a new object, feed, thing, path, join

    private static void newObject() {
        NestedFoci x = new NestedFoci();
        for (int i = 0; i < 12; i++) {
            DUE.is("kind " + i, x.look(i, 0, 0, 0), 0);
            DUE.is("worth " + i, x.look(i, 0, 0, 1), 0);
            DUE.is("NODES " + i, x.look(i, 0, 0, 2), 1);
        }
        for (int i = 0; i < 22; i++) {
            DUE.is("count " + i, x.count(i), 0);
        }
        DUE.is("no image", x.back(), STATE);
        // what one object does is nothing to another one
        Due.thing(x, 0, "[1,2]");
        DUE.is("another one", new NestedFoci().look(0, 0, 0, 2), 1);
    }

    private static void feed() {
        NestedFoci x = new NestedFoci();
        DUE.is("one", x.feed(1, 0x7878785B), 1);
        DUE.is("two", x.feed(2, 0x78782C31), 3);
        DUE.is("three", x.feed(3, 0x78332C32), 6);
        DUE.is("four", x.feed(4, 0x5D30312C), 10);
        DUE.is("told: [1,2,3,10]", x.thing(0), 5);
        DUE.holds("told", x, 0, "[1,2,3,10]");
        DUE.is("bytes above 127", x.feed(4, -1), 4);
        DUE.is("are none of a THING", x.thing(0), -100);
        DUE.is("7 with the highest bit", x.feed(1, 0xB7), 1);
        DUE.is("is none either", x.thing(0), -100);
        DUE.is("what is above the n bytes is nothing", x.feed(1, 0xFFFFFF37), 1);
        DUE.is("told: 7", x.thing(0), 1);
        DUE.is("worth", x.look(0, 0, 0, 1), 7);
        // by a byte 0 too
        x.feed(2, 0x0037);
        DUE.is("a byte 0 is one", x.thing(0), -101);
    }

    private static void feedTrouble() {
        Calls.areBad(DUE, "feed");
        NestedFoci x = new NestedFoci();
        for (int i = 0; i < 24; i++) {
            x.feed(4, 0x31313131);
        }
        x.feed(1, 0x31);
        DUE.is("97 and 4", x.feed(4, 0), FULL);
        DUE.is("97 still", x.count(20), 97);
        DUE.is("97 and 3", x.feed(3, 0), 100);
        DUE.is("100 and 1", x.feed(1, 0), FULL);
        DUE.is("BAD ahead of FULL, 0", x.feed(0, 0), BAD);
        DUE.is("BAD ahead of FULL, 5", x.feed(5, 0), BAD);
        DUE.is("100 still", x.count(20), 100);
    }

    private static void thing() {
        for (int shelf = 0; shelf < 12; shelf++) {
            NestedFoci x = new NestedFoci();
            DUE.is("thing on " + shelf, Due.thing(x, shelf, "[1,(2,3)]"), 5);
            DUE.is("THE TAPE then", x.count(20), 0);
            DUE.is("remembers", x.count(shelf), 1);
            DUE.is("NODES", x.look(shelf, 0, 0, 2), 5);
            DUE.is("another SHELF", x.look((shelf + 1) % 12, 0, 0, 2), 1);
            DUE.is("a FAULT", Due.thing(x, shelf, "[1,(2,3)"), -108);
            DUE.is("THE TAPE then, too", x.count(20), 0);
            DUE.is("the SHELF as it was", x.fold(shelf, 0, 1), 6);
            DUE.is("remembers as it did", x.count(shelf), 1);
        }
    }

    private static void thingFault() {
        DUE.failsAt("", 0);
        DUE.failsAt("x", 0);
        DUE.failsAt("[1,x]", 3);
        DUE.failsAt("[1", 2);
        NestedFoci x = new NestedFoci();
        for (int i = 0; i < 100; i++) {
            x.feed(1, i == 0 ? '[' : i % 2 == 1 ? '1' : ',');
        }
        DUE.is("the 13th of a ROW on a full TAPE", x.thing(0), -124);
        // THE TAPE full: a THING, a byte behind it, a byte too few
        String rows = "[" + "[1,1,1,1,1,1,1,1,1,1,1],".repeat(4);
        DUE.reads(rows + "12]", 50);
        DUE.failsAt(rows + "1]]", 99);
        DUE.failsAt(rows + "123", 100);
    }

    private static void thingBad() {
        NestedFoci x = new NestedFoci();
        Due.feed(x, "[1,2]");
        for (int shelf : NO_SHELF) {
            DUE.is("thing on " + shelf, x.thing(shelf), BAD);
            DUE.is("THE TAPE stays", x.count(20), 5);
        }
        DUE.is("thing then", x.thing(0), 3);
        Due.feed(x, "x");
        DUE.is("BAD ahead of a FAULT", x.thing(12), BAD);
        DUE.is("the FAULT then", x.thing(11), -100);
    }

    private static void thingMade() {
        NestedFoci x = DUE.spent(2998);
        Due.feed(x, "[1,2]");
        DUE.is("BAD ahead of MADE", x.thing(12), BAD);
        DUE.is("three with two left", x.thing(5), MADE);
        DUE.is("becomes nothing", x.count(5), 0);
        DUE.is("counts none", x.count(21), 2998);
        DUE.is("THE TAPE is empty then", x.count(20), 0);
        Due.feed(x, "[1,2");
        DUE.is("a FAULT ahead of MADE", x.thing(5), -104);
        Due.feed(x, "[1]");
        DUE.is("two with two left", x.thing(5), 2);
        Due.feed(x, "1");
        DUE.is("one with none left", x.thing(5), MADE);
    }

    private static void path() {
        for (int p = 0; p < 8; p++) {
            NestedFoci x = new NestedFoci();
            DUE.is("path " + p, Due.path(x, p, "*.1"), 2);
            DUE.is("THE TAPE then", x.count(20), 0);
            DUE.is("STEPS", x.count(12 + p), 2);
            DUE.is("another PATH", x.count(12 + (p + 1) % 8), 0);
            DUE.is("a FAULT", Due.path(x, p, "~~~x"), -103);
            DUE.is("THE TAPE then, too", x.count(20), 0);
            DUE.is("the PATH as it was", x.count(12 + p), 2);
            DUE.is("eight", Due.path(x, p, "~~~~~~~~"), 8);
            DUE.is("nine", Due.path(x, p, "*********"), -108);
            DUE.is("eight and what begins no STEP", Due.path(x, p, "********1"), -108);
            DUE.is("eight of many bytes and one", Due.path(x, p, "=123456;".repeat(8) + "*"), -164);
            DUE.is("as it was", x.count(12 + p), 8);
            DUE.is("none", Due.path(x, p, ""), 0);
        }
    }

    private static void pathFault() {
        DUE.pathFailsAt("x", 0);
        DUE.pathFailsAt("*x", 1);
        DUE.pathFailsAt("*.", 2);
        DUE.pathFailsAt("*.2", 2);
        NestedFoci x = new NestedFoci();
        DUE.is("in the last of a long one", Due.path(x, 0, "=-99999;".repeat(7) + "=-999999"), -164);
        for (int i = 0; i < 100; i++) {
            x.feed(1, '*');
        }
        DUE.is("on a full TAPE", x.path(0), -108);
    }

    private static void pathBad() {
        NestedFoci x = new NestedFoci();
        Due.feed(x, "**");
        for (int path : NO_PATH) {
            DUE.is("path " + path, x.path(path), BAD);
            DUE.is("THE TAPE stays", x.count(20), 2);
        }
        DUE.is("path then", x.path(7), 2);
        Due.feed(x, "x");
        DUE.is("BAD ahead of a FAULT", x.path(8), BAD);
        DUE.is("the FAULT then", x.path(0), -100);
    }

    private static void join() {
        NestedFoci x = Due.with("[(1,[2]),(3,[4])]", "*");
        Due.path(x, 1, ".1*");
        DUE.is("join", x.join(0, 1), 3);
        DUE.is("count", x.count(12), 3);
        DUE.is("the FOCI", x.fold(0, 0, 1), 6);
        DUE.is("the other one stays", x.count(13), 2);
        DUE.is("with one of no STEPS", x.join(0, 7), 3);
        DUE.is("one of no STEPS goes on", x.join(7, 0), 3);
        DUE.is("its FOCI", x.fold(0, 7, 1), 6);
        DUE.is("two of no STEPS", x.join(6, 5), 0);
        DUE.is("by itself", x.join(1, 1), 4);
        DUE.is("what was joined stays", x.count(12), 3);
    }

    private static void joinTrouble() {
        Calls.areBad(DUE, "join");
        NestedFoci x = new NestedFoci();
        Due.path(x, 0, "****");
        Due.path(x, 1, "*****");
        DUE.is("9 together", x.join(0, 1), FULL);
        DUE.is("9 together, the other way", x.join(1, 0), FULL);
        DUE.is("4 still", x.count(12), 4);
        DUE.is("5 still", x.count(13), 5);
        DUE.is("10 together", x.join(1, 1), FULL);
        DUE.is("8 together", x.join(0, 0), 8);
        DUE.is("8 and none", x.join(0, 7), 8);
        DUE.is("none and 8", x.join(7, 0), 8);
        DUE.is("16 together", x.join(0, 0), FULL);
    }

    // ---- over, put, take, undo

    private static void over() {
        NestedFoci x = Due.with("[1,2,[3]]", "*");
        Due.path(x, 1, "%");
        DUE.is("over to another", x.over(11, 0, 0, 0, 10), 3);
        DUE.holds("over to another", x, 11, "[11,12,[3]]");
        DUE.holds("that stays", x, 0, "[1,2,[3]]");
        DUE.is("over to itself", x.over(0, 0, 1, 0, 10), 3);
        DUE.holds("over to itself", x, 0, "[11,12,[13]]");
        DUE.is("remembers", x.count(0), 2);
        Due.path(x, 2, "/9");
        DUE.is("no FOCI", x.over(5, 0, 2, 0, 10), 0);
        DUE.is("it became THE SAME THING", x.shared(5, 0), 1);
        DUE.is("without STEPS", x.over(5, 0, 7, 9, 10), 1);
        DUE.holds("without STEPS", x, 5, "[[13],12,11]");
    }

    private static void overBad() {
        Calls.areBad(DUE, "over");
        NestedFoci x = DUE.spent(3000);
        DUE.is("BAD ahead of MADE", x.over(1, 0, 7, 5, 10), BAD);
        DUE.is("BAD ahead of MADE, how", x.over(1, 0, 7, 12, 0), BAD);
        DUE.is("BAD by no FOCI", new NestedFoci().over(1, 0, 0, 7, 12), BAD);
    }

    private static void overTrouble() {
        NestedFoci x = Due.with("[".repeat(12) + "1" + "]".repeat(12), "%");
        DUE.is("HEIGHT 13", x.over(1, 0, 0, 6, 0), FULL);
        DUE.is("it counts", x.count(21), 13 + 13);
        DUE.is("HEIGHT 13 by a TAG", x.over(1, 0, 0, 5, 0), FULL);
        DUE.is("HEIGHT 13 by a PAIR", x.over(1, 0, 0, 4, 0), FULL);
        DUE.is("becomes nothing", x.count(1), 0);
        DUE.is("HEIGHT 12", x.over(1, 0, 0, 3, 0), 1);
        NestedFoci y = DUE.spent(2996);
        Due.path(y, 0, "");
        DUE.is("four left", y.over(5, 3, 0, 4, 0), 1);
        DUE.is("two left", y.over(5, 3, 0, 4, 0), 1);
        DUE.is("none left", y.over(5, 3, 0, 0, 0), MADE);
        DUE.is("became twice", y.count(5), 2);
        DUE.is("an OVER that stays makes none", y.over(5, 3, 0, 8, 0), 1);
    }

    private static void put() {
        NestedFoci x = Due.with("[1]", "");
        Due.thing(x, 1, "{a:2}");
        DUE.is("a PAIR", x.put(2, 0, 0, 1, 0), 5);
        DUE.holds("a PAIR", x, 2, "([1],{a:2})");
        DUE.is("a ROW", x.put(3, 1, 1, 0, 0), 5);
        DUE.holds("a ROW", x, 3, "[{a:2},[1]]");
        DUE.is("of one SHELF twice", x.put(4, 0, 0, 0, 0), 5);
        DUE.is("onto its own", x.put(0, 1, 0, 0, 0), 5);
        DUE.holds("onto its own", x, 0, "[[1],[1]]");
        DUE.is("of THE SAME THINGS", x.shared(2, 0), 1);
        DUE.is("remembers", x.count(0), 2);
    }

    private static void putKey() {
        NestedFoci x = Due.with("{}", "");
        Due.thing(x, 1, "[7]");
        for (int n = 0; n < 26; n++) {
            DUE.is("KEY number " + n, x.put(2, 2, 0, 1, n), 3);
            DUE.is("its letter " + n, x.key(2, 0, 0, 0), n + 1);
        }
        DUE.is("the MAP in a stays", x.look(0, 0, 0, 1), 0);
        Due.thing(x, 3, "{a:1,b:2,aa:3}");
        DUE.is("in place of what it had", x.put(4, 2, 3, 1, 1), 5);
        DUE.holds("in place of what it had", x, 4, "{a:1,b:[7],aa:3}");
        DUE.is("behind all of one letter", x.put(4, 2, 3, 1, 25), 6);
        DUE.holds("behind all of one letter", x, 4, "{a:1,b:2,z:[7],aa:3}");
        DUE.is("into itself", x.put(3, 2, 3, 3, 0), 7);
        DUE.holds("into itself", x, 3, "{a:{a:1,b:2,aa:3},b:2,aa:3}");
        for (int n : new int[] {Integer.MIN_VALUE, -1, 26, Integer.MAX_VALUE}) {
            DUE.is("by 0, n " + n, x.put(5, 0, 0, 0, n), 3);
            DUE.is("by 1, n " + n, x.put(5, 1, 0, 0, n), 3);
            DUE.is("by 2, n " + n, x.put(5, 2, 0, 0, n), BAD);
        }
    }

    private static void putBad() {
        Calls.areBad(DUE, "put");
        NestedFoci x = DUE.spent(3000);
        DUE.is("BAD ahead of MADE", x.put(12, 0, 0, 0, 0), BAD);
        DUE.is("BAD ahead of STATE", x.put(0, 2, 0, 0, 26), BAD);
    }

    private static void putState() {
        NestedFoci x = Due.with("{a:1}", "");
        String[] texts = {"5", "(1,2)", "[]", "[{a:1}]", "#1{a:1}"};
        for (String text : texts) {
            Due.thing(x, 1, text);
            DUE.is("into " + text, x.put(2, 2, 1, 0, 0), STATE);
            DUE.is("becomes nothing", x.count(2), 0);
            DUE.is("of a MAP and " + text, x.put(3, 2, 0, 1, 0) > 0 ? 1 : 0, 1);
        }
        DUE.is("made by none of those", x.count(21), 2 + 1 + 3 + 1 + 3 + 3 + 5);
    }

    private static void putTrouble() {
        NestedFoci x = Due.with("{a:1,b:1,c:1,d:1,e:1,f:1,g:1,h:1,i:1,j:1,k:1,l:1}", "");
        DUE.is("a 13th", x.put(1, 2, 0, 2, 25), FULL);
        DUE.is("one of the 12", x.put(1, 2, 0, 2, 0), 13);
        Due.thing(x, 3, "[".repeat(11) + "1" + "]".repeat(11));
        DUE.is("HEIGHT 12", x.put(3, 0, 2, 3, 0), 14);
        DUE.is("HEIGHT 13", x.put(4, 0, 2, 3, 0), FULL);
        DUE.is("HEIGHT 13 of the other", x.put(4, 1, 3, 2, 0), FULL);
        DUE.is("HEIGHT 13 of a MAP", x.put(4, 2, 0, 3, 0), FULL);
        DUE.is("becomes nothing", x.count(4), 0);
        int made = x.count(21);
        DUE.is("counts none", x.put(4, 1, 3, 3, 0), FULL);
        DUE.is("as many as ahead", x.count(21), made);
        NestedFoci y = DUE.spent(2999);
        DUE.is("one left", y.put(5, 0, 3, 3, 0), 3);
        DUE.is("none left", y.put(5, 0, 3, 3, 0), MADE);
        DUE.is("became once", y.count(5), 1);
    }

    private static void take() {
        NestedFoci x = Due.with("[(1,2),{a:3},4]", "*");
        int made = x.count(21);
        int[] nodes = {3, 2, 1};
        String[] texts = {"(1,2)", "{a:3}", "4"};
        for (int k = 0; k < 3; k++) {
            DUE.is("FOCUS " + k, x.take(11 - k, 0, 0, k), nodes[k]);
            DUE.is("THE SAME THING " + k, x.shared(11 - k, 0), 1);
        }
        DUE.is("makes nothing", x.count(21), made);
        for (int k = 0; k < 3; k++) {
            DUE.is("it holds " + texts[k], x.fold(11 - k, 7, 1), new int[] {3, 3, 4}[k]);
        }
        DUE.is("onto its own", x.take(0, 0, 0, 0), 3);
        DUE.holds("onto its own", x, 0, "(1,2)");
        DUE.is("remembers", x.count(0), 2);
        DUE.is("itself", x.take(0, 0, 7, 0), 3);
        DUE.is("remembers once more", x.count(0), 3);
    }

    private static void takeBad() {
        Calls.areBad(DUE, "take");
        NestedFoci x = Due.with("[1]", "*");
        DUE.is("BAD ahead of NONE, shelf", x.take(12, 0, 0, 1), BAD);
        DUE.is("BAD ahead of NONE, from", x.take(0, -1, 0, 1), BAD);
        DUE.is("BAD ahead of NONE, path", x.take(0, 0, 8, 1), BAD);
    }

    private static void takeNone() {
        NestedFoci x = Due.with("[1,2]", "*");
        for (int k : new int[] {2, -1, 12, 200, Integer.MIN_VALUE, Integer.MAX_VALUE}) {
            DUE.is("FOCUS " + k, x.take(1, 0, 0, k), NONE);
        }
        DUE.is("becomes nothing", x.count(1), 0);
        DUE.is("of none", x.take(1, 1, 0, 0), NONE);
        DUE.is("the last", x.take(1, 0, 0, 1), 1);
    }

    private static void undo() {
        for (int shelf = 0; shelf < 12; shelf++) {
            NestedFoci x = new NestedFoci();
            for (int i = 1; i <= 11; i++) {
                Due.thing(x, shelf, "" + i);
            }
            for (int left = 9; left >= 0; left--) {
                DUE.is("undo " + shelf, x.undo(shelf), left);
                DUE.is("to what it held", x.look(shelf, 0, 0, 1), left + 1);
                DUE.is("count", x.count(shelf), left);
            }
            DUE.is("no more", x.undo(shelf), STATE);
        }
    }

    private static void undoTrouble() {
        Calls.areBad(DUE, "undo");
        NestedFoci x = new NestedFoci();
        DUE.is("of a new one", x.undo(0), STATE);
        Due.thing(x, 0, "5");
        DUE.is("of another", x.undo(1), STATE);
        DUE.is("one", x.undo(0), 0);
        DUE.is("none", x.undo(0), STATE);
        DUE.is("stays", x.look(0, 0, 0, 1), 0);
        x.image();
        Due.thing(x, 0, "5");
        x.back();
        DUE.is("none behind back", x.undo(0), STATE);
    }

    // ---- look, key, fold, best

    private static final String KINDS = "[-7,(1,2),[[1],2],{a:1,b:2,c:3},#4(5,#1[]),[],{},0]";

    private static void lookAll(int what, int... due) {
        NestedFoci x = Due.with(KINDS, "*");
        for (int k = 0; k < due.length; k++) {
            DUE.is("look at FOCUS " + k + " of " + KINDS + ", what " + what, x.look(0, 0, k, what), due[k]);
        }
        for (int shelf = 0; shelf < 12; shelf++) {
            Due.thing(x, shelf, "[9,{}]");
            Due.path(x, shelf % 8, "/1");
            DUE.is("on SHELF " + shelf, x.look(shelf, shelf % 8, 0, what), new int[] {3, 0, 1, 0}[what]);
        }
        int asked = what;
        asks("look", y -> y.look(0, 0, 2, asked), new int[] {3, 2, 4, 2}[what]);
    }

    private static void lookKind() {
        lookAll(0, 0, 1, 2, 3, 4, 2, 3, 0);
    }

    private static void lookWord() {
        lookAll(1, -7, 2, 2, 3, 4, 0, 0, 0);
        DUE.is("as many as may be", Due.with("[1,2,3,4,5,6,7,8,9,10,11,12]", "").look(0, 0, 0, 1), 12);
        DUE.is("the last TAG", Due.with("#9[]", "").look(0, 0, 0, 1), 9);
        DUE.is("the first TAG", Due.with("#0[]", "").look(0, 0, 0, 1), 0);
    }

    private static void lookNodes() {
        lookAll(2, 1, 3, 4, 4, 5, 1, 1, 1);
    }

    private static void lookHeight() {
        lookAll(3, 0, 1, 2, 1, 3, 0, 0, 0);
    }

    private static void lookNo() {
        NestedFoci x = Due.with("[1,2]", "*");
        for (int shelf : NO_SHELF) {
            DUE.is("shelf " + shelf, x.look(shelf, 0, 0, 0), NO);
        }
        for (int path : NO_PATH) {
            DUE.is("path " + path, x.look(0, path, 0, 0), NO);
        }
        for (int k : NO_PLACE) {
            DUE.is("FOCUS " + k, x.look(0, 0, k, 0), NO);
        }
        DUE.is("FOCUS 1", x.look(0, 0, 1, 0), 0);
        DUE.is("FOCUS 2", x.look(0, 0, 2, 0), NO);
        for (int what : new int[] {-1, 4, Integer.MIN_VALUE, Integer.MAX_VALUE}) {
            DUE.is("what " + what, x.look(0, 0, 0, what), NO);
        }
        DUE.is("no FOCI", x.look(1, 0, 0, 0), NO);
        asks("look at none", y -> y.look(0, 0, 4, 0), NO);
    }

    private static void key() {
        NestedFoci x = Due.with("[{a:1,z:2,aa:3,az:4,zz:5,aaa:6,abc:7,zzz:8}]", "*");
        int[] due = {1, 26, 28, 53, 728, 757, 786, 19682};
        for (int i = 0; i < due.length; i++) {
            DUE.is("KEY " + i, x.key(0, 0, 0, i), due[i]);
        }
        asks("key", y -> y.key(0, 0, 2, 1), 2);
    }

    private static void keyNone() {
        NestedFoci x = Due.with("[5,[3],{},(1,2),#1{a:1},{a:1,b:2}]", "*");
        for (int shelf : NO_SHELF) {
            DUE.is("shelf " + shelf, x.key(shelf, 0, 0, 0), NONE);
        }
        for (int path : NO_PATH) {
            DUE.is("path " + path, x.key(0, path, 0, 0), NONE);
        }
        for (int k : NO_PLACE) {
            DUE.is("FOCUS " + k, x.key(0, 0, k, 0), NONE);
            DUE.is("KEY " + k, x.key(0, 0, 5, k), NONE);
        }
        DUE.is("FOCUS 6", x.key(0, 0, 6, 0), NONE);
        for (int k = 0; k < 5; k++) {
            DUE.is("no MAP, or an empty one, " + k, x.key(0, 0, k, 0), NONE);
        }
        DUE.is("the last KEY", x.key(0, 0, 5, 1), 2);
        DUE.is("behind the last KEY", x.key(0, 0, 5, 2), NONE);
        DUE.is("no FOCI", x.key(1, 0, 0, 0), NONE);
    }

    private static void fold() {
        DUE.folds("[3,1,(2,2),1,(2,2),[[3]]]", "*", 6, 16, 5, 1, 4, 2, 12);
        DUE.folds("[3,1,(2,2),1,(2,2),[[3]]]", "", 1, 16, 0, 0, 1, 3, 13);
        DUE.folds("[]", "*", 0, 0, NO, NO, 0, NO, 0);
        for (int code = 0; code <= 6; code++) {
            int asked = code;
            asks("fold " + code, y -> y.fold(0, 0, asked), new long[] {4, 15, 3, 0, 4, 2, 10}[code]);
        }
    }

    private static void foldNo() {
        NestedFoci x = Due.with("[1,2]", "*");
        for (int code = 0; code <= 6; code++) {
            for (int shelf : NO_SHELF) {
                DUE.is("shelf " + shelf, x.fold(shelf, 0, code), NO);
            }
            for (int path : NO_PATH) {
                DUE.is("path " + path, x.fold(0, path, code), NO);
            }
            boolean isNo = code == 2 || code == 3 || code == 5;
            DUE.is("no FOCI, code " + code, x.fold(1, 0, code), isNo ? NO : 0);
        }
        for (int code : new int[] {-1, 7, Integer.MIN_VALUE, Integer.MAX_VALUE}) {
            DUE.is("code " + code, x.fold(0, 0, code), NO);
            DUE.is("no FOCI, code " + code, x.fold(1, 0, code), NO);
        }
    }

    private static void best() {
        String some = "[[1,2],7,#1[],(1,2),3,[[]],7,{a:1,b:2},[1,1]]";
        DUE.best(some, 0, 4, 1, 6, 3, 8, 0, 5, 7, 2);
        DUE.best(some, 1, 4, 1, 6, 5, 2, 3, 8, 0, 7);
        DUE.best(some, 2, 2, 5, 0, 3, 7, 8, 1, 4, 6);
        asks("best", y -> y.best(0, 0, 1, 3), 2);
    }

    private static void bestNone() {
        NestedFoci x = Due.with("[1,2]", "*");
        for (int order = 0; order <= 2; order++) {
            for (int n : NO_PLACE) {
                DUE.is("best " + n, x.best(0, 0, order, n), NONE);
            }
            DUE.is("the last", x.best(0, 0, order, 1), 1);
            DUE.is("behind the last", x.best(0, 0, order, 2), NONE);
            DUE.is("of none", x.best(1, 0, order, 0), NONE);
        }
    }

    private static void bestBad() {
        Calls.areBad(DUE, "best");
        NestedFoci x = Due.with("[1]", "*");
        DUE.is("BAD ahead of NONE, order", x.best(0, 0, 3, 1), BAD);
        DUE.is("BAD ahead of NONE, path", x.best(0, 8, 0, 1), BAD);
        DUE.is("BAD ahead of NONE, shelf", x.best(12, 0, 0, 1), BAD);
    }

    // ---- order, shared, differ, fit

    private static void order() {
        DUE.ordered("1", "2", -1);
        DUE.ordered("[1,2]", "[1,2]", 0);
        // one way or the other it is 1, however far they are from one another
        DUE.ordered("#9[]", "-999999", 1);
        DUE.ordered("{zzz:1}", "{a:1}", 1);
        DUE.ordered("[1,1,1,1,1]", "[]", 1);
        asks("order", y -> y.order(0, 1), -1);
        asks("order, the other way", y -> y.order(1, 0), 1);
        asks("order with itself", y -> y.order(0, 0), 0);
    }

    private static void orderBad() {
        Calls.areBad(DUE, "order");
        DUE.is("other than what it answers", NestedFoci.BAD, -2);
    }

    private static void shared() {
        NestedFoci x = Due.with("[1,(2,3)]", "*");
        x.over(1, 0, 0, 6, 0);
        DUE.is("shared", x.shared(0, 1), 2);
        DUE.is("with itself", x.shared(1, 1), 1);
        DUE.is("none", x.shared(2, 3), 0);
        x.put(4, 1, 0, 0, 0);
        DUE.is("at two places of the first", x.shared(4, 0), 2);
        DUE.is("at two places of the second", x.shared(0, 4), 1);
        Calls.areBad(DUE, "shared");
        asks("shared", y -> y.shared(2, 0), 1);
    }

    private static void differ() {
        DUE.differ("[1,(2,3),4]", "[1,(0,3),0]", 3, 5);
        DUE.differ("1", "1");
        DUE.differ("1", "2", 0);
        DUE.differ("[1,1,1,1,1,1,1,1,1,1,1,1]", "[2,2,2,2,2,2,2,2,2,2,2,2]", 1, 2, 3, 4, 5, 6, 7, 8, 9, 10, 11, 12);
        asks("differ", y -> y.differ(0, 3, -1), 5);
        asks("differ where", y -> y.differ(0, 3, 2), 4);
    }

    private static void differTrouble() {
        Calls.areBad(DUE, "differ");
        NestedFoci x = Due.with("[1,2]", "");
        Due.thing(x, 1, "[3,4]");
        for (int k : new int[] {2, -2, Integer.MIN_VALUE, Integer.MAX_VALUE}) {
            DUE.is("the k-th, " + k, x.differ(0, 1, k), NONE);
        }
        DUE.is("the last", x.differ(0, 1, 1), 2);
        DUE.is("none at all", x.differ(0, 0, -1), 0);
        DUE.is("none at all, the first", x.differ(0, 0, 0), NONE);
        DUE.is("BAD ahead of NONE", x.differ(12, 0, 5), BAD);
    }

    private static void fit() {
        DUE.fit("[1,(2,3)]", "*", "7", 7, 1);
        DUE.fit("[1,(2,3)]", "%", "[7]", 1, 2 + 5);
        DUE.fit("[1,1]", "*=1;", "2", 6, 1);
        NestedFoci x = Due.with("[1]", "*");
        DUE.is("with itself", x.fit(0, 0, 0), 7);
        Probe.unchanged(DUE, "fit", PromisesTest::some, y -> y.fit(0, 0, 2), 7, 1);
    }

    private static void fitTrouble() {
        Calls.areBad(DUE, "fit");
        NestedFoci x = Due.with("[1,1,1,1,1,1,1,1,1,1,1,1]", "%");
        DUE.is("FULL by the second", x.fit(0, 0, 0), FULL);
        DUE.is("both count", x.count(21), 13 + 1 + 13);
        x.put(1, 1, 0, 0, 0);
        DUE.is("FULL by the first", x.fit(0, 0, 1), FULL);
        DUE.is("it counts, the second isn't done", x.count(21), 13 + 1 + 13 + 1 + 1);
        for (int left = 0; left <= 2; left++) {
            NestedFoci y = DUE.spent(3000 - 2 - left);
            Due.thing(y, 5, "[1]");
            Due.path(y, 0, "%");
            // the first makes one, the second two
            DUE.is("MADE with " + left + " left", y.fit(5, 0, 5), MADE);
            DUE.is("3000 then", y.count(21), 3000);
        }
        NestedFoci y = DUE.spent(3000 - 2 - 3);
        Due.thing(y, 5, "[1]");
        Due.path(y, 0, "%");
        DUE.is("with three left", y.fit(5, 0, 5), 1);
        DUE.is("3000 then", y.count(21), 3000);
        DUE.is("BAD ahead of MADE", y.fit(5, 8, 5), BAD);
    }

    // ---- image, back, count

    private static void image() {
        NestedFoci x = new NestedFoci();
        DUE.is("image of a new one", x.image(), 12);
        Due.thing(x, 0, "[1,2]");
        x.put(1, 0, 0, 0, 0);
        DUE.is("image of more", x.image(), 3 + 7 + 10);
        DUE.is("makes nothing", x.count(21), 4);
        Due.thing(x, 0, "9");
        DUE.is("the later one is kept", x.back(), 20);
        DUE.holds("the later one is kept", x, 0, "[1,2]");
        // what SHELVES hold, hold 200 NODES each at most: all of them at once
        NestedFoci y = DUE.spent(1000);
        for (int i = 1; i < 12; i++) {
            y.take(i, 0, 6, 0);
        }
        DUE.is("image of the most", y.image(), 12 * 143);
    }

    private static void back() {
        NestedFoci x = some();
        x.path(7);
        int all = x.image();
        DUE.is("image", all, 11 + 19 + 4 + 11 + 8);
        Due.thing(x, 0, "9");
        Due.path(x, 0, "");
        x.undo(1);
        DUE.is("back", x.back(), all);
        DUE.holds("SHELF 0", x, 0, "[1,(2,3),{a:4,b:[5]},#6[]]");
        DUE.is("PATH 0", x.count(12), 1);
        DUE.is("SHELF 1 as it was ahead of undo", x.look(1, 7, 0, 2), 11 + 2 * 4);
        DUE.is("undo then", x.undo(1), STATE);
        x.join(0, 0);
        x.over(0, 0, 1, 0, 1);
        DUE.is("once more", x.back(), all);
        DUE.is("PATH 0 once more", x.count(12), 1);
        DUE.is("SHELF 0 once more", x.fold(0, 1, 1), 15);
        Probe.unchanged(DUE, "back to what is there", () -> {
            NestedFoci y = some();
            y.image();
            y.back();
            return y;
        }, y -> y.back(), all, 0);
    }

    private static void backState() {
        NestedFoci x = Due.with("[1]", "*");
        DUE.is("none", x.back(), STATE);
        DUE.is("remembers still", x.count(0), 1);
        DUE.is("holds still", x.look(0, 0, 0, 1), 1);
        DUE.is("image", x.image(), 13);
        DUE.is("one", x.back(), 13);
        DUE.is("one still", x.back(), 13);
    }

    private static void count() {
        NestedFoci x = new NestedFoci();
        int made = 0;
        for (int i = 0; i < 12; i++) {
            for (int j = 0; j < i; j++) {
                Due.thing(x, i, "7");
                made++;
            }
        }
        for (int i = 0; i < 8; i++) {
            Due.path(x, i, "*".repeat(8 - i));
        }
        Due.feed(x, "abc");
        for (int i = 0; i < 12; i++) {
            DUE.is("SHELF " + i, x.count(i), Math.min(10, i));
        }
        for (int i = 0; i < 8; i++) {
            DUE.is("PATH " + i, x.count(12 + i), 8 - i);
        }
        DUE.is("THE TAPE", x.count(20), 3);
        DUE.is("made", x.count(21), made);
        for (int what = 0; what < 22; what++) {
            int asked = what;
            asks("count", y -> y.count(asked), some().count(what));
        }
    }

    private static void countBad() {
        Calls.areBad(DUE, "count");
    }
}
