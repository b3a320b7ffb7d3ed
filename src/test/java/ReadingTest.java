/** Promises 1 to 5: a new object, feed, thing, path, join. */
public final class ReadingTest {
    private static final Due DUE = new Due();

    public static void main(String[] args) {
        newObject();
        constants();
        feed();
        things();
        thingFaults();
        mapFaults();
        depthFaults();
        thingKeepsAndEmpties();
        thingMade();
        paths();
        pathFaults();
        join();
        DUE.end();
    }

    private static void newObject() {
        NestedFoci x = new NestedFoci();
        for (int i = 0; i < 12; i++) {
            DUE.is("new look(" + i + ") kind", x.look(i, 0, 0, 0), 0);
            DUE.is("new look(" + i + ") worth", x.look(i, 0, 0, 1), 0);
            DUE.is("new shared with itself " + i, x.shared(i, i), 1);
            DUE.is("new shared with another " + i, x.shared(i, (i + 1) % 12), 0);
            DUE.is("new order " + i, x.order(0, i), 0);
        }
        for (int i = 0; i < 22; i++) {
            DUE.is("new count(" + i + ")", x.count(i), 0);
        }
        DUE.is("new back", x.back(), NestedFoci.STATE);
        DUE.is("new undo", x.undo(0), NestedFoci.STATE);
        DUE.is("new image", x.image(), 12);
    }

    private static void constants() {
        DUE.is("NONE", NestedFoci.NONE, -1);
        DUE.is("BAD", NestedFoci.BAD, -2);
        DUE.is("STATE", NestedFoci.STATE, -3);
        DUE.is("FULL", NestedFoci.FULL, -4);
        DUE.is("MADE", NestedFoci.MADE, -17);
        DUE.is("NO", NestedFoci.NO, Long.MIN_VALUE);
    }

    private static void feed() {
        NestedFoci x = new NestedFoci();
        DUE.is("feed(0)", x.feed(0, 49), NestedFoci.BAD);
        DUE.is("feed(5)", x.feed(5, 49), NestedFoci.BAD);
        DUE.is("feed(-1)", x.feed(-1, 49), NestedFoci.BAD);
        DUE.is("feed(MIN)", x.feed(Integer.MIN_VALUE, 49), NestedFoci.BAD);
        DUE.is("feed(MAX)", x.feed(Integer.MAX_VALUE, 49), NestedFoci.BAD);
        DUE.is("feed nothing yet", x.count(20), 0);
        // the lowest byte is the first: "12", and what is above the n bytes is left out
        DUE.is("feed(2)", x.feed(2, 0x78783231), 2);
        DUE.is("thing of 12", x.thing(0), 1);
        DUE.is("worth of 12", x.look(0, 0, 0, 1), 12);
        for (int i = 1; i <= 25; i++) {
            DUE.is("feed to the brim", x.feed(4, 0xFFFFFFFF), 4 * i);
        }
        for (int n = 1; n <= 4; n++) {
            DUE.is("feed over the brim", x.feed(n, 49), NestedFoci.FULL);
        }
        DUE.is("feed BAD ahead of FULL", x.feed(5, 49), NestedFoci.BAD);
        DUE.is("full tape", x.count(20), 100);
        DUE.is("full tape's FAULT", x.thing(0), -100);
        for (int i = 1; i <= 24; i++) {
            x.feed(4, 49);
        }
        x.feed(2, 49);
        DUE.is("feed 3 behind 98", x.feed(3, 49), NestedFoci.FULL);
        DUE.is("tape as before", x.count(20), 98);
        DUE.is("feed 2 behind 98", x.feed(2, 49), 100);
    }

    private static void things() {
        String[] texts = {"0", "-0", "999999", "-999999", "007", "(1,2)", "[]", "{}", "[1]", "[[],{}]", "#0 ".trim()
            + "7", "#9[1,2,3]", "{a:1}", "{zzz:1,a:2,ab:(3,4)}", "[1,2,3,4,5,6,7,8,9,10,11,12]",
            "{a:1,b:2,c:3,d:4,e:5,f:6,g:7,h:8,i:9,j:10,k:11,l:12}", "((1,2),(3,#4#5-6))", "[0,0,0]"};
        int[] nodes = {1, 1, 1, 1, 1, 3, 1, 1, 2, 3, 2, 5, 2, 6, 13, 13, 9, 4};
        int[] heights = {0, 0, 0, 0, 0, 1, 0, 0, 1, 1, 1, 2, 1, 2, 1, 1, 4, 1};
        int[] kinds = {0, 0, 0, 0, 0, 1, 2, 3, 2, 2, 4, 4, 3, 3, 2, 3, 1, 2};
        int made = 0;
        NestedFoci x = new NestedFoci();
        for (int i = 0; i < texts.length; i++) {
            DUE.is("thing " + texts[i], Due.thing(x, 3, texts[i]), nodes[i]);
            DUE.is("kind of " + texts[i], x.look(3, 0, 0, 0), kinds[i]);
            DUE.is("nodes of " + texts[i], x.look(3, 0, 0, 2), nodes[i]);
            DUE.is("height of " + texts[i], x.look(3, 0, 0, 3), heights[i]);
            made += nodes[i];
            DUE.is("made by " + texts[i], x.count(21), made);
            DUE.is("tape behind " + texts[i], x.count(20), 0);
            DUE.is("remembered behind " + texts[i], x.count(3), Math.min(10, i + 1));
        }
        Due.thing(x, 3, "-999999");
        DUE.is("worth of -999999", x.look(3, 0, 0, 1), -999999);
        Due.thing(x, 3, "007");
        DUE.is("worth of 007", x.look(3, 0, 0, 1), 7);
    }

    private static void faults(NestedFoci x, String[] texts, int[] places, boolean isPath) {
        for (int i = 0; i < texts.length; i++) {
            Due.feed(x, texts[i]);
            int got = isPath ? x.path(1) : x.thing(1);
            DUE.is("FAULT of " + texts[i], got, -100 - places[i]);
            DUE.is("tape behind FAULT of " + texts[i], x.count(20), 0);
        }
        DUE.is("nothing made by FAULTS", x.count(21), 0);
        DUE.is("nothing became by FAULTS", x.count(1), 0);
        DUE.is("no STEPS by FAULTS", x.count(13), 0);
    }

    private static void thingFaults() {
        String[] texts = {"", "-", "--1", "1234567", "-1234567", "1 ", " 1", "x", "\u00ff", "12,", "(1", "(1,", "(1)",
            "(1,2", "(1,2,", "(,", "()", "(1,2)(", "[", "[,", "[1", "[1,", "[1,]", "[1;", "[1}", "[1]]", "#", "#a", "#1",
            "#12#", "#-1", "1-", "[1,2,3,4,5,6,7,8,9,10,11,12,", "[1,2,3,4,5,6,7,8,9,10,11,12,13]",
            "[1,2,3,4,5,6,7,8,9,10,11,12", "[1,2,3,4,5,6,7,8,9,10,11,12)", "A", "1a", ".0", "$a."};
        int[] places = {0, 1, 1, 6, 7, 1, 0, 0, 0, 2, 2, 3, 2, 4, 4, 1, 1, 5, 1, 1, 2, 3, 3, 2, 2, 3, 1, 1, 2, 3, 1, 1,
            27, 27, 27, 27, 0, 1, 0, 0};
        faults(new NestedFoci(), texts, places, false);
    }

    private static void mapFaults() {
        String[] texts = {"{", "{a", "{a:", "{a:1", "{a:1,", "{a:1,}", "{:1}", "{A:1}", "{1:1}", "{a,1}", "{abcd:1}",
            "{abc;", "{a:1,a:2}", "{a:1,a}", "{a:1,a", "{a:1,a;", "{ab:1,c:2,ab:3}", "{a:1,ab;", "{abc:1,abc:2}",
            "{a:1,b:2,a:3,b:4}", "{a:{a:1},a:2}", "{a:1]", "{a:1;", "{a:1}}", "{,", "{abc:1,abcd:1}",
            "{a:1,b:1,c:1,d:1,e:1,f:1,g:1,h:1,i:1,j:1,k:1,l:1,m:1}", "{a:1,b:1,c:1,d:1,e:1,f:1,g:1,h:1,i:1,j:1,k:1,l:1,"};
        int[] places = {1, 2, 3, 4, 5, 5, 1, 1, 1, 2, 4,
            4, 5, 5, 5, 5, 10, 7, 7,
            9, 9, 4, 4, 5, 1, 7,
            48, 48};
        faults(new NestedFoci(), texts, places, false);
        NestedFoci x = new NestedFoci();
        DUE.is("one KEY in two MAPS", Due.thing(x, 0, "{a:{a:1},aa:{a:2}}"), 5);
    }

    private static void depthFaults() {
        String open12 = "[[[[[[[[[[[[";
        String close12 = "]]]]]]]]]]]]";
        NestedFoci x = new NestedFoci();
        DUE.is("height 12", Due.thing(x, 0, open12 + "7" + close12), 13);
        DUE.is("height 12 told", x.look(0, 0, 0, 3), 12);
        DUE.is("height 12 with an empty one", Due.thing(x, 0, open12 + "{}" + close12), 13);
        DUE.is("its height", x.look(0, 0, 0, 3), 12);
        DUE.is("tagged height 12", Due.thing(x, 0, "#1#1#1#1#1#1#1#1#1#1#1#1" + "5"), 13);
        DUE.is("pairs of height 12", Due.thing(x, 0, "(1,".repeat(12) + "1" + ")".repeat(12)), 25);
        String[] texts = {open12 + "[7]", open12 + "[", open12 + "[x", open12 + "#1", open12 + "#17", open12 + "{a:",
            open12 + "{a:1", open12 + "{x", open12 + "{4", open12 + "(1,2)", "#1#1#1#1#1#1#1#1#1#1#1#1#15",
            "((((((((((((1", "((((((((((((((", open12 + "7]", "(1,".repeat(13) + "1", "(1,".repeat(12) + "(1,2)",
            "{a:".repeat(13) + "1"};
        int[] places = {13, 13, 13, 14, 14, 15, 15, 14, 13, 13, 26, 13, 13, 14, 37, 37, 39};
        faults(new NestedFoci(), texts, places, false);
    }

    private static void thingKeepsAndEmpties() {
        NestedFoci x = new NestedFoci();
        Due.feed(x, "(1,2)");
        for (int shelf : new int[] {-1, 12, Integer.MIN_VALUE, Integer.MAX_VALUE}) {
            DUE.is("thing(" + shelf + ")", x.thing(shelf), NestedFoci.BAD);
        }
        for (int path : new int[] {-1, 8, Integer.MIN_VALUE, Integer.MAX_VALUE}) {
            DUE.is("path(" + path + ")", x.path(path), NestedFoci.BAD);
        }
        DUE.is("the tape stays by BAD", x.count(20), 5);
        DUE.is("thing(11)", x.thing(11), 3);
        DUE.is("the tape is empty", x.count(20), 0);
        DUE.is("thing of an empty tape", x.thing(11), -100);
        DUE.is("SHELF 11 as before", x.look(11, 0, 0, 0), 1);
        DUE.is("remembered once", x.count(11), 1);
    }

    private static void thingMade() {
        NestedFoci x = DUE.spent(2990);
        Due.feed(x, "[1,2,3,4,5,6,7,8,9,10]");
        int remembered = x.count(5);
        DUE.is("thing over 3000", x.thing(5), NestedFoci.MADE);
        DUE.is("thing MADE counts none", x.count(21), 2990);
        DUE.is("thing MADE empties the tape", x.count(20), 0);
        DUE.is("thing MADE becomes nothing", x.count(5), remembered);
        Due.feed(x, "[1,2,3,4,5,6,7,8,9,10");
        DUE.is("a FAULT is told ahead of MADE", x.thing(5), -121);
        Due.feed(x, "[1,2,3,4,5,6,7,8,9]");
        DUE.is("thing up to 3000", x.thing(5), 10);
        DUE.is("all made", x.count(21), 3000);
        Due.feed(x, "1");
        DUE.is("thing behind 3000", x.thing(5), NestedFoci.MADE);
        DUE.is("count stays 3000", x.count(21), 3000);
    }

    private static void paths() {
        String[] texts = {"", "*", "~", "%", ".0", ".1", "/0", "/99", "/07", "$a.", "$abc.", "#0", "#9", "<0>", "<99>",
            "=0;", "=-0;", "=123456;", "=-123456;", "********", ".0.1/2$a.#3*~%", "<1>=2;", "/1/2", "$a.$b.", "#1#2", ".0.0"};
        int[] steps = {0, 1, 1, 1, 1, 1, 1, 1, 1, 1, 1, 1, 1, 1, 1, 1, 1, 1, 1, 8, 8, 2, 2, 2, 2, 2};
        NestedFoci x = new NestedFoci();
        for (int i = 0; i < texts.length; i++) {
            DUE.is("path " + texts[i], Due.path(x, 6, texts[i]), steps[i]);
            DUE.is("STEPS of " + texts[i], x.count(18), steps[i]);
            DUE.is("tape behind path " + texts[i], x.count(20), 0);
        }
        DUE.is("path by a FAULT", Due.path(x, 6, "*x"), -101);
        DUE.is("PATH stays by a FAULT", x.count(18), 2);
    }

    private static void pathFaults() {
        String[] texts = {".", ".2", "..", ".00", "/", "/a", "/-1", "/123", "$", "$.", "$A.", "$a", "$ab", "$abc", "$abcd.",
            "$a*", "#", "#a", "#12", "<", "<>", "<1", "<12", "<123>", "<1*", "<-1>", "=", "=;", "=-", "=-;", "=--1;", "=1",
            "=123456", "=1234567;", "=-1234567;", "=1*", "x", " *", "* ", "*********", "********x", "*******.0.0", "\u00e9",
            "1", "*1", "(", "********.", "*******.", "=1;;", "<1>>", "$a..", "*\u0000"};
        int[] places = {1, 1, 1, 2, 1, 1, 1, 3, 1, 1, 1, 2, 3, 4, 4, 2, 1, 1, 2, 1, 1, 2, 3, 3, 2, 1, 1, 1, 2, 2, 2, 2,
            7, 7, 8, 2, 0, 0, 1, 8, 8, 9, 0, 0, 1, 0, 8, 8, 3, 3, 4, 1};
        // ".." behind "$a." is a STEP's first byte that ends too early
        faults(new NestedFoci(), texts, places, true);
    }

    private static void join() {
        NestedFoci x = Due.with("[(1,2),(3,4)]", "*");
        Due.path(x, 1, ".1");
        DUE.is("join", x.join(0, 1), 2);
        DUE.is("joined look", x.look(0, 0, 1, 1), 4);
        DUE.is("the other one stays", x.count(13), 1);
        DUE.is("the other one's foci", x.fold(0, 1, 0), 0);
        DUE.is("join with none", x.join(0, 7), 2);
        DUE.is("none joined", x.join(7, 1), 1);
        DUE.is("join by itself", x.join(0, 0), 4);
        DUE.is("join by itself again", x.join(0, 0), 8);
        DUE.is("join FULL", x.join(0, 1), NestedFoci.FULL);
        DUE.is("join FULL by itself", x.join(0, 0), NestedFoci.FULL);
        DUE.is("FULL changes nothing", x.count(12), 8);
        DUE.is("8 goes on by none", x.join(0, 6), 8);
        DUE.is("1 and 8", x.join(1, 0), NestedFoci.FULL);
        for (int bad : new int[] {-1, 8, Integer.MIN_VALUE, Integer.MAX_VALUE}) {
            DUE.is("join(" + bad + ", 0)", x.join(bad, 0), NestedFoci.BAD);
            DUE.is("join(0, " + bad + ")", x.join(0, bad), NestedFoci.BAD);
        }
    }
}
