import java.io.IOException;

/** The first part of the document's Terms, sentence by sentence: a THING, its order, THE TAPE, PATHS and FOCI. */
public final class TermsTest {
    private static final Due DUE = new Due();
    private static final String TWELVE = "1,2,3,4,5,6,7,8,9,10,11,12";
    private static final String KEYED_TWELVE = "a:1,b:1,c:1,d:1,e:1,f:1,g:1,h:1,i:1,j:1,k:1,l:1";
    private static final String OPEN12 = "[".repeat(12);
    private static final String CLOSE12 = "]".repeat(12);

    public static void main(String[] args) throws IOException {
        Sentences s = new Sentences(DUE, "==== 1 A THING:", "==== 2 OVER");
        s.heading("==== 1");
        s.say("A THING: a NUMBER (int);", TermsTest::aNumber);
        s.say("a PAIR of two THINGS;", TermsTest::aPair);
        s.say("a ROW of THINGS (12 at most);", TermsTest::aRow);
        s.say("a MAP of KEYS to THINGS (12 at most);", TermsTest::aMap);
        s.say("a TAGGED one (TAG 0 .. 9, a THING).", TermsTest::aTaggedOne);
        s.say("A KEY: 1 to 3 letters a .. z;", TermsTest::aKey);
        s.say("KEYS are in the order of their sizes, of like sizes in that of the alphabet.", TermsTest::orderOfKeys);
        s.say("THINGS in a MAP are in the order of their KEYS.", TermsTest::orderInMaps);
        s.say("HEIGHT of a NUMBER is 0, of others 1 more than that of the highest in them (of an empty one 0);",
            TermsTest::height);
        s.say("12 at most.", TermsTest::mostHeight);
        s.say("NODES: itself, and all NODES of what is in it (as often as it is there);", TermsTest::nodes);
        s.say("200 at most.", TermsTest::mostNodes);
        s.say("SHELVES 0 .. 11 hold a THING each (at first NUMBER 0, twelve of them).", TermsTest::shelves);
        sayOrder(s);
        sayTape(s);
        saySteps(s);
        sayFaults(s);
        sayFoci(s);
        s.end();
        DUE.end();
    }

    private static void sayOrder(Sentences s) {
        s.say("THINGS are ORDERED: NUMBERS ahead of PAIRS, of ROWS, of MAPS, of TAGGED ones;", TermsTest::orderOfKinds);
        s.say("NUMBERS by their worth;", TermsTest::orderOfNumbers);
        s.say("PAIRS by the first, then the second;", TermsTest::orderOfPairs);
        s.say("ROWS, one by one from the first on, the shorter one ahead, if all it has are alike;",
            TermsTest::orderOfRows);
        s.say("MAPS likewise by KEY and THING in turn;", TermsTest::orderOfMaps);
        s.say("TAGGED ones by TAG, then by what is in them.", TermsTest::orderOfTaggedOnes);
        s.say("ALIKE: neither is ahead.", TermsTest::alike);
    }

    private static void sayTape(Sentences s) {
        s.say("THE TAPE: bytes (100 at most).", TermsTest::tape);
        s.say("A THING is read from it: 1 to 6 digits, perhaps a - ahead;", TermsTest::readNumber);
        s.say("(THING,THING);", TermsTest::readPair);
        s.say("[ ], or [THING,THING,..];", TermsTest::readRow);
        s.say("{ }, or {KEY:THING,KEY:THING,..};", TermsTest::readMap);
        s.say("#digit THING.", TermsTest::readTagged);
    }

    private static void saySteps(Sentences s) {
        s.say("A PATH: STEPS on end, 0 to 8:", TermsTest::stepsOnEnd);
        s.say(".0 or .1 (of a PAIR),", TermsTest::sideStep);
        s.say("/digits (1 or 2 digits: a place in a ROW, from 0),", TermsTest::placeStep);
        s.say("$KEY. (a KEY of a MAP, a . behind it),", TermsTest::keyStep);
        s.say("#digit (a TAG),", TermsTest::tagStep);
        s.say("* (all in a ROW or MAP),", TermsTest::starStep);
        s.say("~ (all that is just within, of whatever),", TermsTest::withinStep);
        s.say("% (all NUMBERS within, itself if it is one),", TermsTest::numbersStep);
        s.say("<digits> (just if NODES are so many at most; 1 or 2 digits),", TermsTest::smallStep);
        s.say("=digits; (just if it is that NUMBER; 1 to 6 digits, perhaps a - ahead).", TermsTest::equalStep);
        s.say("No blanks.", TermsTest::blanks);
    }

    private static void sayFaults(Sentences s) {
        s.say("FAULT: the place of the first byte that can't stand there", TermsTest::firstFault);
        s.say("(also a second of one KEY in a MAP, as its letters are over, whatever comes behind: the place of its "
            + "first letter;", TermsTest::secondKey);
        s.say("the 13th of a ROW, MAP: the , ahead of it;", TermsTest::thirteenth);
        s.say("a THING within 13 others: its first byte;", TermsTest::withinThirteen);
        s.say("a KEY's 4th letter, a 7th digit);", TermsTest::oneTooMany);
        s.say("the size, if it ends too early.", TermsTest::tooEarly);
    }

    private static void sayFoci(Sentences s) {
        s.say("FOCI of a PATH in a THING, in their order: without STEPS: itself.", TermsTest::withoutSteps);
        s.say("Else of the FOCI of the first STEP, one by one, those of the other STEPS.", TermsTest::stepByStep);
        s.say("Of one STEP: .0, .1: of a PAIR the one or other;", TermsTest::sides);
        s.say("/k: of a ROW that at place k;", TermsTest::places);
        s.say("$KEY.: of a MAP that of the KEY;", TermsTest::keys);
        s.say("#t: of one of that TAG what is in it;", TermsTest::tags);
        s.say("*: of a ROW, a MAP all in it;", TermsTest::all);
        s.say("~: of a PAIR both, of ROWS, MAPS all, of a TAGGED one what is in it;", TermsTest::justWithin);
        s.say("%: the NUMBERS within it, as they come;", TermsTest::numbersWithin);
        s.say("<n>, =v;: itself, if it is so.", TermsTest::itselfIfSo);
        s.say("Else none.", TermsTest::elseNone);
        s.say("PATHS 0 .. 7 (none has STEPS at first).", TermsTest::paths);
    }

    // ---- what THINGS are

    private static void aNumber() {
        int[] some = {0, 1, -1, 999999, -999999, Integer.MAX_VALUE, Integer.MIN_VALUE};
        for (int worth : some) {
            NestedFoci x = new NestedFoci();
            x.over(0, 0, 0, 0, worth);
            DUE.is("kind of NUMBER " + worth, x.look(0, 0, 0, 0), 0);
            DUE.is("worth of NUMBER " + worth, x.look(0, 0, 0, 1), worth);
            DUE.is("NODES of NUMBER " + worth, x.look(0, 0, 0, 2), 1);
        }
    }

    private static void aPair() {
        String[] texts = {"(1,2)", "([],{})", "((1,2),#3[4])", "({a:1},0)"};
        int[] nodes = {3, 3, 7, 4};
        for (int i = 0; i < texts.length; i++) {
            NestedFoci x = Due.with(texts[i], "");
            DUE.is("kind of " + texts[i], x.look(0, 0, 0, 0), 1);
            DUE.is("in " + texts[i], x.look(0, 0, 0, 1), 2);
            DUE.is("NODES of " + texts[i], x.look(0, 0, 0, 2), nodes[i]);
        }
        DUE.failsAt("()", 1);
        DUE.failsAt("(1)", 2);
        DUE.failsAt("(1,2,3)", 4);
    }

    private static void aRow() {
        String[] texts = {"[]", "[7]", "[1,(2,3)]", "[" + TWELVE + "]"};
        int[] sizes = {0, 1, 2, 12};
        for (int i = 0; i < texts.length; i++) {
            NestedFoci x = Due.with(texts[i], "");
            DUE.is("kind of " + texts[i], x.look(0, 0, 0, 0), 2);
            DUE.is("in " + texts[i], x.look(0, 0, 0, 1), sizes[i]);
        }
        DUE.reads("[" + TWELVE + "]", 13);
        DUE.failsAt("[" + TWELVE + ",13]", 27);
        // a ROW put together or made by OVER never has more than two
        DUE.over("[" + TWELVE + "]", "", 6, 0, 1, 1, "[[" + TWELVE + "]]");
    }

    private static void aMap() {
        String[] texts = {"{}", "{a:7}", "{a:1,zz:(2,3)}", "{" + KEYED_TWELVE + "}"};
        int[] sizes = {0, 1, 2, 12};
        for (int i = 0; i < texts.length; i++) {
            NestedFoci x = Due.with(texts[i], "");
            DUE.is("kind of " + texts[i], x.look(0, 0, 0, 0), 3);
            DUE.is("in " + texts[i], x.look(0, 0, 0, 1), sizes[i]);
        }
        DUE.reads("{" + KEYED_TWELVE + "}", 13);
        DUE.failsAt("{" + KEYED_TWELVE + ",m:1}", 48);
        NestedFoci x = Due.with("{" + KEYED_TWELVE + "}", "");
        DUE.is("put a 13th KEY", x.put(1, 2, 0, 2, 12), NestedFoci.FULL);
        DUE.is("put by the 12th KEY", x.put(1, 2, 0, 2, 11), 13);
        Due.thing(x, 3, "{a:1,b:1,c:1,d:1,e:1,f:1,g:1,h:1,i:1,j:1,k:1}");
        DUE.is("put a 12th KEY", x.put(1, 2, 3, 2, 25), 13);
        DUE.is("and a 13th behind it", x.put(1, 2, 1, 2, 24), NestedFoci.FULL);
        DUE.is("12 still", x.look(1, 0, 0, 1), 12);
    }

    private static void aTaggedOne() {
        for (int tag = 0; tag <= 9; tag++) {
            NestedFoci x = Due.with("#" + tag + "(1,2)", "");
            DUE.is("kind of TAG " + tag, x.look(0, 0, 0, 0), 4);
            DUE.is("TAG " + tag, x.look(0, 0, 0, 1), tag);
            DUE.is("NODES of TAG " + tag, x.look(0, 0, 0, 2), 4);
            DUE.is("over to TAG " + tag, x.over(1, 0, 0, 5, tag), 1);
            DUE.is("it has TAG " + tag, x.look(1, 0, 0, 1), tag);
        }
        DUE.over("7", "", 5, 9, 1, 1, "#97");
        DUE.holds("#107 is TAG 1 of 7", Due.with("#107", ""), 0, "#17");
        NestedFoci x = new NestedFoci();
        DUE.is("over to TAG 10", x.over(1, 0, 0, 5, 10), NestedFoci.BAD);
        DUE.is("over to TAG -1", x.over(1, 0, 0, 5, -1), NestedFoci.BAD);
        DUE.failsAt("#", 1);
        DUE.failsAt("#5", 2);
    }

    private static void aKey() {
        for (String key : new String[] {"a", "z", "aa", "zz", "aaa", "zzz", "abc"}) {
            DUE.reads("{" + key + ":1}", 2);
            DUE.leads("$" + key + ".", 1);
        }
        // the signs next to a and z, and other letters
        for (String sign : new String[] {"`", "{", "A", "Z", "1", "_", "\u00e4", "\u00e1"}) {
            DUE.failsAt("{" + sign + ":1}", 1);
            DUE.failsAt("{az" + sign + ":1}", 3);
            DUE.pathFailsAt("$" + sign + ".", 1);
            DUE.pathFailsAt("$az" + sign + ".", 3);
        }
        DUE.failsAt("{:1}", 1);
        DUE.failsAt("{abcd:1}", 4);
        DUE.pathFailsAt("$.", 1);
        DUE.pathFailsAt("$abcd.", 4);
    }

    private static void orderOfKeys() {
        String[] keys = {"a", "b", "z", "aa", "az", "ba", "zz", "aaa", "aab", "aba", "baa", "zzz"};
        StringBuilder backwards = new StringBuilder();
        for (int i = keys.length - 1; i >= 0; i--) {
            backwards.append(i == keys.length - 1 ? "" : ",").append(keys[i]).append(':').append(i);
        }
        NestedFoci x = Due.with("{" + backwards + "}", "*");
        for (int i = 0; i < keys.length; i++) {
            int letters = 0;
            for (char c : keys[i].toCharArray()) {
                letters = letters * 27 + c - 'a' + 1;
            }
            DUE.is("KEY " + i, x.key(0, 1, 0, i), letters);
            DUE.is("THING of KEY " + i, x.look(0, 0, i, 1), i);
        }
    }

    private static void orderInMaps() {
        DUE.foci("{aa:1,z:2,a:3,zz:4,aaa:5,b:6}", "*", "3", "6", "2", "1", "4", "5");
        NestedFoci x = Due.with("{a:1,c:3,aa:5}", "*");
        Due.thing(x, 1, "7");
        x.put(2, 2, 0, 1, 1);
        x.put(2, 2, 2, 1, 25);
        int[] due = {1, 7, 3, 7, 5};
        for (int k = 0; k < due.length; k++) {
            DUE.is("put among KEYS, " + k, x.look(2, 0, k, 1), due[k]);
        }
        x.put(3, 2, 1, 1, 0);
        Due.thing(x, 4, "{}");
        x.put(3, 2, 4, 1, 0);
        DUE.is("the first KEY of an empty MAP", x.key(3, 7, 0, 0), 1);
    }

    private static void heightIs(String text, int height) {
        DUE.is("HEIGHT of " + text, Due.with(text, "").look(0, 0, 0, 3), height);
    }

    private static void height() {
        heightIs("0", 0);
        heightIs("[]", 0);
        heightIs("{}", 0);
        heightIs("[0]", 1);
        heightIs("{a:0}", 1);
        heightIs("(0,0)", 1);
        heightIs("#00", 1);
        heightIs("[[]]", 1);
        heightIs("#0{}", 1);
        heightIs("(1,[2])", 2);
        heightIs("([2],1)", 2);
        heightIs("[0,[[7]],[],(1,2)]", 3);
        heightIs("{a:#1#2#3[],b:0}", 4);
    }

    private static void mostHeight() {
        NestedFoci x = Due.with(OPEN12 + CLOSE12, "");
        DUE.is("HEIGHT 11 by twelve ROWS", x.look(0, 0, 0, 3), 11);
        DUE.is("over to HEIGHT 12", x.over(1, 0, 0, 6, 0), 1);
        DUE.is("HEIGHT 12", x.look(1, 0, 0, 3), 12);
        for (int how = 4; how <= 6; how++) {
            DUE.is("over to HEIGHT 13 by " + how, x.over(2, 1, 0, how, 1), NestedFoci.FULL);
        }
        DUE.is("put a PAIR of HEIGHT 13", x.put(2, 0, 3, 1, 0), NestedFoci.FULL);
        DUE.is("put a ROW of HEIGHT 13", x.put(2, 1, 1, 3, 0), NestedFoci.FULL);
        DUE.is("put a PAIR of HEIGHT 12", x.put(2, 0, 3, 0, 0), 1 + 1 + 12);
        Due.thing(x, 4, "{}");
        DUE.is("put a MAP of HEIGHT 13", x.put(2, 2, 4, 1, 0), NestedFoci.FULL);
        DUE.is("put a MAP of HEIGHT 12", x.put(2, 2, 4, 0, 0), 1 + 12);
        Due.path(x, 1, "*");
        Due.thing(x, 5, "[1]");
        DUE.is("what is given is too high", x.over(2, 5, 1, 7, 1), NestedFoci.FULL);
        DUE.is("what is given isn't", x.over(2, 5, 1, 7, 0), 1);
        DUE.is("fit that is too high", x.fit(5, 1, 1), NestedFoci.FULL);
        DUE.is("it became thrice", x.count(2), 3);
        DUE.reads(OPEN12 + "1" + CLOSE12, 13);
        DUE.failsAt(OPEN12 + "[1]" + CLOSE12, 13);
        // beside the highest, what is lower may still grow
        DUE.over("(1," + "[".repeat(11) + "1" + "]".repeat(11) + ")", ".0", 6, 0, 1, 2,
            "([1]," + "[".repeat(11) + "1" + "]".repeat(11) + ")");
    }

    private static void nodesAre(String text, int nodes) {
        NestedFoci x = Due.with(text, "");
        DUE.is("NODES of " + text, x.look(0, 0, 0, 2), nodes);
        DUE.is("all NODES in " + text, x.fold(0, 0, 6), nodes);
        DUE.is("NODES on all SHELVES with " + text, x.image(), nodes + 11);
    }

    private static void nodes() {
        nodesAre("0", 1);
        nodesAre("[]", 1);
        nodesAre("{}", 1);
        nodesAre("#00", 2);
        nodesAre("(0,0)", 3);
        nodesAre("[1,[2,3],[],{a:4}]", 8);
        NestedFoci x = Due.with("[1,2]", "");
        DUE.is("THE SAME THING twice", x.put(1, 1, 0, 0, 0), 7);
        DUE.is("and twice that", x.put(1, 0, 1, 1, 0), 15);
        DUE.is("as it is looked at", x.look(1, 0, 0, 2), 15);
    }

    private static void mostNodes() {
        NestedFoci x = new NestedFoci();
        // 24 of them, then 49, 99 and 199
        Due.thing(x, 0, "[[1,1,1,1,1,1,1,1,1,1],[1,1,1,1,1,1,1,1,1,1,1]]");
        x.put(0, 1, 0, 0, 0);
        x.put(3, 1, 0, 0, 0);
        DUE.is("99 NODES", x.look(3, 0, 0, 2), 99);
        DUE.is("199 NODES", x.put(0, 1, 3, 3, 0), 199);
        DUE.is("over to 200", x.over(1, 0, 0, 6, 0), 1);
        DUE.is("200 NODES", x.look(1, 0, 0, 2), 200);
        DUE.is("over from 200 to 201", x.over(2, 1, 0, 5, 0), NestedFoci.FULL);
        DUE.is("over from 199 to 201", x.over(2, 0, 0, 4, 0), NestedFoci.FULL);
        DUE.is("put a PAIR of 201", x.put(2, 0, 0, 11, 0), NestedFoci.FULL);
        x.over(4, 3, 0, 6, 0);
        DUE.is("put a PAIR of 200", x.put(2, 0, 3, 4, 0), 200);
        DUE.is("put a ROW of 200", x.put(2, 1, 4, 3, 0), 200);
        DUE.is("put a PAIR of 100 and 100", x.put(2, 0, 4, 4, 0), NestedFoci.FULL);
        DUE.is("put a ROW of 100 and 100", x.put(2, 1, 4, 4, 0), NestedFoci.FULL);
        Due.thing(x, 5, "{}");
        x.put(5, 2, 5, 3, 0);
        DUE.is("put a MAP of 200", x.put(6, 2, 5, 4, 1), 200);
        x.put(5, 2, 5, 4, 0);
        DUE.is("put a MAP of 201", x.put(6, 2, 5, 4, 1), NestedFoci.FULL);
        DUE.is("put in place of what had NODES", x.put(6, 2, 5, 0, 0), 200);
        Due.path(x, 1, "/0");
        DUE.is("what is given is too much", x.over(7, 4, 1, 7, 1), NestedFoci.FULL);
        DUE.is("what is given isn't", x.over(7, 4, 1, 7, 0), 1);
        DUE.is("200 with it", x.look(7, 0, 0, 2), 200);
        DUE.is("fit that is too much", x.fit(4, 1, 1), NestedFoci.FULL);
        DUE.is("fit that isn't", x.fit(4, 1, 0), 7);
    }

    private static void shelves() {
        NestedFoci x = new NestedFoci();
        for (int i = 0; i < 12; i++) {
            DUE.is("kind on " + i, x.look(i, 0, 0, 0), 0);
            DUE.is("worth on " + i, x.look(i, 0, 0, 1), 0);
            for (int j = 0; j < 12; j++) {
                DUE.is("shared by " + i + " and " + j, x.shared(i, j), i == j ? 1 : 0);
            }
        }
        DUE.is("no SHELF 12", x.look(12, 0, 0, 0), NestedFoci.NO);
        DUE.is("no SHELF -1", x.look(-1, 0, 0, 0), NestedFoci.NO);
        for (int i = 0; i < 12; i++) {
            Due.thing(x, i, "[" + i + "]");
        }
        for (int i = 0; i < 12; i++) {
            DUE.is("each holds its own " + i, x.fold(i, 0, 1), i);
        }
    }

    // ---- the order of THINGS

    private static void orderOfKinds() {
        String[] kinds = {"-999999", "999999", "(-1,-1)", "(#99,#99)", "[]", "[#99,#99]", "{}", "{zzz:#99}", "#0-999999", "#9#99"};
        for (int i = 0; i < kinds.length; i++) {
            for (int j = i + 1; j < kinds.length; j++) {
                DUE.ordered(kinds[i], kinds[j], -1);
            }
        }
    }

    private static void orderOfNumbers() {
        int[] worths = {Integer.MIN_VALUE, Integer.MIN_VALUE + 1, -999999, -1, 0, 1, 999999, Integer.MAX_VALUE - 1,
            Integer.MAX_VALUE};
        for (int i = 0; i < worths.length; i++) {
            for (int j = 0; j < worths.length; j++) {
                NestedFoci x = new NestedFoci();
                x.over(0, 0, 0, 0, worths[i]);
                x.over(1, 1, 0, 0, worths[j]);
                DUE.is("order " + worths[i] + " " + worths[j], x.order(0, 1), Integer.compare(i, j));
            }
        }
    }

    private static void orderOfPairs() {
        DUE.ordered("(1,9)", "(2,0)", -1);
        DUE.ordered("(1,1)", "(1,2)", -1);
        DUE.ordered("((1,9),0)", "((2,0),-5)", -1);
        DUE.ordered("(0,[])", "(0,[0])", -1);
        DUE.ordered("(3,4)", "(3,4)", 0);
    }

    private static void orderOfRows() {
        DUE.ordered("[1,9]", "[2,0]", -1);
        DUE.ordered("[1,2,3]", "[1,3]", -1);
        DUE.ordered("[1,3]", "[1,3,-9]", -1);
        DUE.ordered("[]", "[-999999]", -1);
        DUE.ordered("[2]", "[1,9,9]", 1);
        DUE.ordered("[]", "[]", 0);
        DUE.ordered("[" + TWELVE + "]", "[" + TWELVE.replace("12", "13") + "]", -1);
    }

    private static void orderOfMaps() {
        DUE.ordered("{}", "{a:-9}", -1);
        DUE.ordered("{a:9}", "{b:0}", -1);
        DUE.ordered("{z:9}", "{aa:0}", -1);
        DUE.ordered("{a:1,b:9}", "{a:2,b:0}", -1);
        DUE.ordered("{a:1,z:9}", "{a:2,b:0}", -1);
        DUE.ordered("{a:1,b:9}", "{a:1,c:0}", -1);
        DUE.ordered("{a:1}", "{a:1,b:-9}", -1);
        DUE.ordered("{b:0}", "{a:9,c:9}", 1);
        DUE.ordered("{b:1,a:2}", "{a:2,b:1}", 0);
    }

    private static void orderOfTaggedOnes() {
        DUE.ordered("#0(9,9)", "#1-9", -1);
        DUE.ordered("#35", "#36", -1);
        DUE.ordered("#3[]", "#3{}", -1);
        DUE.ordered("#9[]", "#9[]", 0);
    }

    private static void alike() {
        for (String text : new String[] {"0", "-0", "(1,2)", "[]", "[1,[2]]", "{}", "{a:1,bc:{}}", "#7#7[]"}) {
            DUE.ordered(text, text, 0);
        }
        DUE.ordered("-0", "000", 0);
        DUE.ordered("[]", "{}", -1);
    }

    // ---- THE TAPE

    private static void tape() {
        NestedFoci x = new NestedFoci();
        for (int i = 1; i <= 24; i++) {
            DUE.is("feed", x.feed(4, 0), 4 * i);
        }
        DUE.is("feed up to 99", x.feed(3, 0), 99);
        DUE.is("feed up to 101", x.feed(2, 0), NestedFoci.FULL);
        DUE.is("99 still", x.count(20), 99);
        DUE.is("feed up to 100", x.feed(1, 0), 100);
        DUE.is("feed up to 101", x.feed(1, 0), NestedFoci.FULL);
        DUE.is("feed up to 104", x.feed(4, 0), NestedFoci.FULL);
        DUE.is("100 still", x.count(20), 100);
        // all 100 are read: 33 PAIRS need more levels than there are, 8 ROWS of 5 don't
        String text = "[" + "[1,2,3,4,5],".repeat(8) + "6]";
        DUE.is("a text of 99", text.length(), 99);
        DUE.reads(text.replace("6]", "66]"), 50);
        DUE.failsAt(text + "]", 99);
        DUE.leads("=-999999;=-999999;$abc.$abc.$abc.<99><99>/11", 8);
    }

    private static void worthIs(String text, int worth) {
        NestedFoci x = Due.with(text, "");
        DUE.is("kind of " + text, x.look(0, 0, 0, 0), 0);
        DUE.is("worth of " + text, x.look(0, 0, 0, 1), worth);
        DUE.is("remembered by " + text, x.count(0), 1);
    }

    private static void readNumber() {
        worthIs("0", 0);
        worthIs("9", 9);
        worthIs("-7", -7);
        worthIs("-0", 0);
        worthIs("123456", 123456);
        worthIs("-123456", -123456);
        worthIs("000000", 0);
        worthIs("-000009", -9);
        DUE.failsAt("1234567", 6);
        DUE.failsAt("0000000", 6);
        DUE.failsAt("-1234567", 7);
        DUE.failsAt("-", 1);
        DUE.failsAt("--1", 1);
        DUE.failsAt("1-", 1);
        DUE.failsAt("+1", 0);
        // the bytes next to 0 and 9
        DUE.failsAt("/", 0);
        DUE.failsAt(":", 0);
        DUE.failsAt("1/", 1);
        DUE.failsAt("1:", 1);
    }

    private static void readPair() {
        DUE.reads("(1,2)", 3);
        DUE.reads("((1,2),(3,4))", 7);
        DUE.failsAt("()", 1);
        DUE.failsAt("(,2)", 1);
        DUE.failsAt("(1;2)", 2);
        DUE.failsAt("(1-2)", 2);
        DUE.failsAt("(1(2,3))", 2);
        DUE.failsAt("[(1,2,3]", 5);
        DUE.failsAt("[(1,2]", 5);
        DUE.failsAt("(1)", 2);
        DUE.failsAt("(1,)", 3);
        DUE.failsAt("(1,2]", 4);
        DUE.failsAt("(1,2,3)", 4);
        DUE.failsAt("(1,2))", 5);
        DUE.failsAt(")", 0);
    }

    private static void readRow() {
        DUE.reads("[]", 1);
        DUE.reads("[1]", 2);
        DUE.reads("[1,[],[2]]", 5);
        DUE.failsAt("[,]", 1);
        DUE.failsAt("[,1]", 1);
        DUE.failsAt("[1,]", 3);
        DUE.failsAt("[1,,2]", 3);
        DUE.failsAt("[1 2]", 2);
        DUE.failsAt("[1-2]", 2);
        DUE.failsAt("[1[2]]", 2);
        DUE.failsAt("[[1,2]", 6);
        DUE.failsAt("[1}", 2);
        DUE.failsAt("[}", 1);
        DUE.failsAt("[]]", 2);
        DUE.failsAt("]", 0);
    }

    private static void readMap() {
        DUE.reads("{}", 1);
        DUE.reads("{a:1}", 2);
        DUE.reads("{a:{},b:{a:1}}", 4);
        DUE.failsAt("{,}", 1);
        DUE.failsAt("{a}", 2);
        DUE.failsAt("{a,1}", 2);
        DUE.failsAt("{a1}", 2);
        DUE.failsAt("{a[]}", 2);
        DUE.failsAt("{a:1b:2}", 4);
        DUE.failsAt("{a:}", 3);
        DUE.failsAt("{a:1,}", 5);
        DUE.failsAt("{a:1,2}", 5);
        DUE.failsAt("{a:1,b}", 6);
        DUE.failsAt("{1:a}", 1);
        DUE.failsAt("{a:1]", 4);
        DUE.failsAt("{]", 1);
        DUE.failsAt("{}}", 2);
        DUE.failsAt("}", 0);
    }

    private static void readTagged() {
        DUE.reads("#01", 2);
        DUE.reads("#9-1", 2);
        DUE.reads("#1#2#3[]", 4);
        DUE.reads("#1234567", 2);
        DUE.failsAt("#12345678", 8);
        DUE.failsAt("#-11", 1);
        DUE.failsAt("#a1", 1);
        DUE.failsAt("#[1]", 1);
        DUE.failsAt("#1)", 2);
        DUE.failsAt("#", 1);
        DUE.failsAt("#1", 2);
    }

    // ---- STEPS as they are read, and one thing that each leads to

    private static void stepsOnEnd() {
        DUE.leads("", 0);
        DUE.leads("*", 1);
        DUE.leads("********", 8);
        DUE.leads(".0/11$abc.#9*~%<99>", 8);
        DUE.leads("=1;=1;=1;=1;=1;=1;=1;=1;", 8);
        DUE.pathFailsAt("*********", 8);
        DUE.pathFailsAt("=1;=1;=1;=1;=1;=1;=1;=1;*", 24);
        DUE.pathFailsAt("*,*", 1);
        DUE.pathFailsAt("*;", 1);
    }

    private static void sideStep() {
        DUE.leads(".0", 1);
        DUE.leads(".1", 1);
        DUE.leads(".0.1", 2);
        DUE.pathFailsAt(".", 1);
        DUE.pathFailsAt(".2", 1);
        DUE.pathFailsAt("./", 1);
        DUE.pathFailsAt(".00", 2);
        DUE.pathFailsAt(".-0", 1);
        DUE.foci("(5,6)", ".0", "5");
        DUE.foci("(5,6)", ".1", "6");
    }

    private static void placeStep() {
        DUE.leads("/0", 1);
        DUE.leads("/00", 1);
        DUE.leads("/99", 1);
        DUE.pathFailsAt("/", 1);
        DUE.pathFailsAt("/100", 3);
        DUE.pathFailsAt("/000", 3);
        DUE.pathFailsAt("/-1", 1);
        DUE.pathFailsAt("/a", 1);
        DUE.foci("[5,6]", "/0", "5");
        DUE.foci("[5,6]", "/01", "6");
    }

    private static void keyStep() {
        DUE.leads("$a.", 1);
        DUE.leads("$abc.", 1);
        DUE.leads("$a..1", 2);
        DUE.pathFailsAt("$", 1);
        DUE.pathFailsAt("$a", 2);
        DUE.pathFailsAt("$abc", 4);
        DUE.pathFailsAt("$a*", 2);
        DUE.pathFailsAt("$a:", 2);
        DUE.pathFailsAt("$a..", 4);
        DUE.foci("{a:1,ab:2}", "$a.", "1");
        DUE.foci("{a:1,ab:2}", "$ab.", "2");
    }

    private static void tagStep() {
        DUE.leads("#0", 1);
        DUE.leads("#9", 1);
        DUE.leads("#1#2", 2);
        DUE.pathFailsAt("#", 1);
        DUE.pathFailsAt("#a", 1);
        DUE.pathFailsAt("#-1", 1);
        DUE.pathFailsAt("#10", 2);
        DUE.foci("#9[]", "#9", "[]");
    }

    private static void starStep() {
        DUE.leads("*", 1);
        DUE.leads("**", 2);
        DUE.foci("[1,[2]]", "*", "1", "[2]");
        DUE.foci("{a:1,b:[2]}", "*", "1", "[2]");
        DUE.foci("(1,2)", "*");
        DUE.foci("#12", "*");
        DUE.foci("2", "*");
    }

    private static void withinStep() {
        DUE.leads("~", 1);
        DUE.foci("[1,[2]]", "~", "1", "[2]");
        DUE.foci("{a:1,b:[2]}", "~", "1", "[2]");
        DUE.foci("(1,(2,3))", "~", "1", "(2,3)");
        DUE.foci("#1#12", "~", "#12");
        DUE.foci("2", "~");
    }

    private static void numbersStep() {
        DUE.leads("%", 1);
        DUE.foci("2", "%", "2");
        DUE.foci("[]", "%");
        DUE.foci("[3,(1,#4[2])]", "%", "3", "1", "2");
    }

    private static void smallStep() {
        DUE.leads("<0>", 1);
        DUE.leads("<99>", 1);
        DUE.leads("<00>", 1);
        DUE.pathFailsAt("<", 1);
        DUE.pathFailsAt("<>", 1);
        DUE.pathFailsAt("<5", 2);
        DUE.pathFailsAt("<55", 3);
        DUE.pathFailsAt("<100>", 3);
        DUE.pathFailsAt("<-1>", 1);
        DUE.pathFailsAt("<5;", 2);
        DUE.foci("[1,2]", "<3>", "[1,2]");
        DUE.foci("[1,2]", "<03>", "[1,2]");
        DUE.foci("[1,2]", "<4>", "[1,2]");
        DUE.foci("[1,2]", "<2>");
        DUE.foci("1", "<0>");
        DUE.foci("1", "<1>", "1");
    }

    private static void equalStep() {
        DUE.leads("=0;", 1);
        DUE.leads("=-0;", 1);
        DUE.leads("=999999;", 1);
        DUE.leads("=-999999;", 1);
        DUE.pathFailsAt("=", 1);
        DUE.pathFailsAt("=;", 1);
        DUE.pathFailsAt("=-;", 2);
        DUE.pathFailsAt("=--1;", 2);
        DUE.pathFailsAt("=1", 2);
        DUE.pathFailsAt("=1234567;", 7);
        DUE.pathFailsAt("=-1234567;", 8);
        DUE.pathFailsAt("=1>", 2);
        DUE.foci("999999", "=999999;", "999999");
        DUE.foci("-999999", "=-999999;", "-999999");
        DUE.foci("999998", "=999999;");
        DUE.foci("1", "=-1;");
        DUE.foci("0", "=-0;", "0");
        DUE.foci("[1]", "=1;");
        DUE.foci("[1]", "=0;");
        DUE.foci("#11", "=1;");
    }

    private static void blanks() {
        String[] texts = {" 1", "1 ", "- 1", "1 1", "( 1,2)", "(1 ,2)", "(1, 2)", "(1,2 )", "[ ]", "[1, 2]", "{ }",
            "{ a:1}", "{a :1}", "{a: 1}", "# 11", "#1 1"};
        int[] places = {0, 1, 1, 1, 1, 2, 3, 4, 1, 3, 1, 1, 2, 3, 1, 2};
        String[] paths = {" *", "* ", "* *", ". 0", "/ 1", "/1 ", "$ a.", "$a .", "# 1", "< 1>", "<1 >", "= 1;", "=1 ;", "=- 1;"};
        int[] pathPlaces = {0, 1, 1, 1, 1, 2, 1, 2, 1, 1, 2, 1, 2, 2};
        for (String blank : new String[] {" ", "\t", "\n", "\r", "\u0000", "\u00a0"}) {
            for (int i = 0; i < texts.length; i++) {
                DUE.failsAt(texts[i].replace(" ", blank), places[i]);
            }
            for (int i = 0; i < paths.length; i++) {
                DUE.pathFailsAt(paths[i].replace(" ", blank), pathPlaces[i]);
            }
        }
    }

    // ---- FAULTS

    private static void firstFault() {
        DUE.failsAt("x", 0);
        DUE.failsAt("[1,x,y]", 3);
        DUE.failsAt("[1]x]", 3);
        DUE.failsAt("((1,2),x)x", 7);
        DUE.failsAt("{a:(1;2;3)}", 5);
        DUE.failsAt("[(1,[2,{b:#3x}])]", 12);
        DUE.failsAt("\u0080", 0);
        DUE.failsAt("1\u00ff", 1);
        DUE.failsAt("[\u00b1]", 1);
        DUE.pathFailsAt("x", 0);
        DUE.pathFailsAt("*x.", 1);
        DUE.pathFailsAt("*.2.3", 2);
        DUE.pathFailsAt("1", 0);
        DUE.pathFailsAt("a.", 0);
        DUE.pathFailsAt("\u00aa", 0);
        DUE.pathFailsAt("<5>>", 3);
        // as each byte there is stands first, and behind a NUMBER
        for (int b = 0; b < 256; b++) {
            String sign = "" + (char) b;
            boolean isBegun = "([{#-".contains(sign);
            boolean isDigit = b >= '0' && b <= '9';
            if (isDigit) {
                DUE.reads(sign, 1);
                DUE.reads("1" + sign, 1);
            } else {
                DUE.failsAt(sign, isBegun ? 1 : 0);
                DUE.failsAt("1" + sign, 1);
            }
            if ("*~%".contains(sign)) {
                DUE.leads(sign, 1);
            } else {
                DUE.pathFailsAt(sign, "./$#<=".contains(sign) ? 1 : 0);
            }
        }
    }

    private static void secondKey() {
        for (String behind : new String[] {":2}", "}", ";", "", ":", ":x", " :2}", "\u0000", "A", ",", ":2,c:3}"}) {
            DUE.failsAt("{a:1,a" + behind, 5);
            DUE.failsAt("{abc:1,b:2,abc" + behind, 11);
            DUE.failsAt("[0,{zz:1,zz" + behind, 9);
        }
        DUE.failsAt("{abc:1,abcd:2}", 7);
        DUE.failsAt("{a:1,b:2,a:3}", 9);
        DUE.failsAt("{b:1,a:2,b:3}", 9);
        DUE.failsAt("{a:{b:1},a:2}", 9);
        // of another MAP, or with more letters, it is no second one
        DUE.reads("{a:{a:{a:1}},b:{a:1}}", 6);
        DUE.reads("{a:1,aa:2,aaa:3}", 4);
        DUE.reads("{aaa:1,aa:2,a:3}", 4);
        DUE.failsAt("{aa:1,a;", 7);
        DUE.failsAt("{a:1,aa;", 7);
    }

    private static void thirteenth() {
        for (String behind : new String[] {"13]", "", "x", "]", ",", "[", "["}) {
            DUE.failsAt("[" + TWELVE + "," + behind, 27);
            DUE.failsAt("[0,[" + TWELVE + "," + behind, 30);
        }
        for (String behind : new String[] {"m:1}", "", "x", "}", "a:1}", ",", "1"}) {
            DUE.failsAt("{" + KEYED_TWELVE + "," + behind, 48);
            DUE.failsAt("{a:{" + KEYED_TWELVE + "," + behind, 51);
        }
        DUE.failsAt("[" + TWELVE, 27);
        DUE.failsAt("[" + TWELVE + ";", 27);
        DUE.failsAt("{" + KEYED_TWELVE, 48);
        DUE.reads("[[" + TWELVE + "],13]", 15);
        DUE.failsAt("[1,2,3,4,5,6,7,8,9,10,11,(1,2),13]", 30);
    }

    private static void withinThirteen() {
        String[] around = {"[", "#1", "(", "{a:"};
        String[] behind = {"]", "", ",1)", "}"};
        for (int i = 0; i < around.length; i++) {
            String open = around[i].repeat(12);
            String close = behind[i].repeat(12);
            int at = open.length() + around[i].length();
            NestedFoci x = new NestedFoci();
            DUE.is("within 12 of " + around[i], Due.thing(x, 0, open + "1" + close) > 0 ? 1 : 0, 1);
            DUE.is("HEIGHT by 12 of " + around[i], x.look(0, 0, 0, 3), 12);
            // whatever its first byte is, and if there is none, it is there that THE TAPE ends too early
            for (String first : new String[] {"1", "-", "[", "(", "{", "#", "x", ""}) {
                DUE.failsAt(open + around[i] + first, at);
            }
        }
        DUE.reads(OPEN12 + "[]" + CLOSE12, 13);
        DUE.reads(OPEN12 + "{}" + CLOSE12, 13);
        DUE.failsAt(OPEN12 + "[)", 13);
        DUE.reads("(1,".repeat(12) + "1" + ")".repeat(12), 25);
        DUE.failsAt("(1,".repeat(12) + "(1,1" + ")".repeat(13), 37);
        DUE.failsAt("(1,".repeat(12) + "[]" + ")".repeat(11) + ",", 49);
        DUE.failsAt("[1," + "[".repeat(12) + "1", 15);
        DUE.failsAt(OPEN12 + "{b", 14);
        DUE.failsAt(OPEN12 + "{:", 13);
    }

    private static void oneTooMany() {
        DUE.failsAt("{abcd:1}", 4);
        DUE.failsAt("{abcde", 4);
        DUE.failsAt("{a:1,bcde:2}", 8);
        DUE.pathFailsAt("$abcd.", 4);
        DUE.pathFailsAt("*$zzzz", 5);
        DUE.failsAt("1234567", 6);
        DUE.failsAt("-1234567", 7);
        DUE.failsAt("[1234567]", 7);
        DUE.failsAt("{a:1234567}", 9);
        DUE.failsAt("#51234567", 8);
        DUE.pathFailsAt("=1234567;", 7);
        DUE.pathFailsAt("=-1234567;", 8);
        DUE.pathFailsAt("=12345678", 7);
        DUE.reads("{abc:123456}", 2);
        DUE.leads("$abc.=123456;", 2);
    }

    private static void tooEarly() {
        String[] things = {"[1,-23,(3,4),[],{}]", "{a:[1,2],bc:#5{},def:-6}", "(((1,2),3),#9#8{a:7})", "[[[[1]]],{zz:(4,5)}]"};
        for (String whole : things) {
            for (int size = 0; size < whole.length(); size++) {
                DUE.failsAt(whole.substring(0, size), size);
            }
        }
        DUE.failsAt("-", 1);
        DUE.failsAt("#1-", 3);
        String path = ".1/12$abc.#3<45>=-678;";
        for (int size = 0; size <= path.length(); size++) {
            // behind a whole STEP, and behind a place of one digit, THE TAPE may end
            String ends = "0 2 4 5 10 12 16 22 ";
            boolean isWhole = (" " + ends).contains(" " + size + " ");
            if (!isWhole) {
                DUE.pathFailsAt(path.substring(0, size), size);
            } else {
                DUE.is("path " + path.substring(0, size) + " is whole",
                    Due.path(new NestedFoci(), 0, path.substring(0, size)) >= 0 ? 1 : 0, 1);
            }
        }
    }

    // ---- FOCI

    private static void withoutSteps() {
        for (String text : new String[] {"7", "(1,2)", "[]", "{a:1}", "#1[2]"}) {
            DUE.foci(text, "", text);
        }
    }

    private static void stepByStep() {
        DUE.foci("[[1,2],[3],[],[4,5]]", "**", "1", "2", "3", "4", "5");
        DUE.foci("[(1,2),(3,4)]", "*.1", "2", "4");
        DUE.foci("([1,2],[3,4])", ".1*", "3", "4");
        DUE.foci("([1,2],[3,4])", "~/1", "2", "4");
        DUE.foci("([1,2],[3,4])", "~/2");
        DUE.foci("[[1,2],[3]]", "*<2>*", "3");
        DUE.foci("[{a:1},{b:2},{a:3}]", "*$a.", "1", "3");
        DUE.foci("[#1#25,#25]", "*#1#2", "5");
        DUE.foci("[[[[[[[[7]]]]]]]]", "********", "7");
        DUE.foci("[[[[[[[7]]]]]]]", "********");
    }

    private static void sides() {
        DUE.foci("(1,2)", ".0", "1");
        DUE.foci("(1,2)", ".1", "2");
        DUE.foci("((1,2),3)", ".0", "(1,2)");
        DUE.foci("[1,2]", ".0");
        DUE.foci("{a:1,b:2}", ".1");
        DUE.foci("#02", ".0");
    }

    private static void places() {
        DUE.foci("[" + TWELVE + "]", "/0", "1");
        DUE.foci("[" + TWELVE + "]", "/11", "12");
        DUE.foci("[" + TWELVE + "]", "/12");
        DUE.foci("[" + TWELVE + "]", "/99");
        DUE.foci("[1,2]", "/1", "2");
        DUE.foci("[1,2]", "/2");
        DUE.foci("[]", "/0");
        DUE.foci("(1,2)", "/0");
        DUE.foci("{a:1,b:2}", "/0");
    }

    private static void keys() {
        DUE.foci("{a:1,b:2,ab:3,abc:4}", "$a.", "1");
        DUE.foci("{a:1,b:2,ab:3,abc:4}", "$ab.", "3");
        DUE.foci("{a:1,b:2,ab:3,abc:4}", "$abc.", "4");
        DUE.foci("{a:1,b:2,ab:3,abc:4}", "$ba.");
        DUE.foci("{a:1,b:2,ab:3,abc:4}", "$c.");
        DUE.foci("{}", "$a.");
        DUE.foci("[1]", "$a.");
    }

    private static void tags() {
        DUE.foci("#0(1,2)", "#0", "(1,2)");
        DUE.foci("#97", "#9", "7");
        DUE.foci("#97", "#8");
        DUE.foci("#1#27", "#1", "#27");
        DUE.foci("#1#27", "#2");
        DUE.foci("1", "#1");
        DUE.foci("[1]", "#0");
    }

    private static void all() {
        DUE.foci("[3,1,2]", "*", "3", "1", "2");
        DUE.foci("{b:1,a:2}", "*", "2", "1");
        DUE.foci("[]", "*");
        DUE.foci("{}", "*");
        DUE.foci("[" + TWELVE + "]", "*", TWELVE.split(","));
    }

    private static void justWithin() {
        DUE.foci("((1,2),[3])", "~", "(1,2)", "[3]");
        DUE.foci("[3,1,[2]]", "~", "3", "1", "[2]");
        DUE.foci("{b:1,a:2}", "~", "2", "1");
        DUE.foci("#4#53", "~", "#53");
        DUE.foci("[]", "~");
        DUE.foci("{}", "~");
        DUE.foci("0", "~");
    }

    private static void numbersWithin() {
        DUE.foci("0", "%", "0");
        DUE.foci("{}", "%");
        DUE.foci("[[],{},[[]]]", "%");
        DUE.foci("[5,(4,[3]),{b:2,a:1},#60]", "%", "5", "4", "3", "1", "2", "0");
        DUE.foci("[" + TWELVE + "]", "%", TWELVE.split(","));
    }

    private static void itselfIfSo() {
        DUE.foci("[1,[2]]", "<4>", "[1,[2]]");
        DUE.foci("[1,[2]]", "<3>");
        DUE.foci("5", "=5;", "5");
        DUE.foci("5", "=4;");
        DUE.foci("5", "=6;");
        DUE.foci("[5]", "=5;");
        NestedFoci x = Due.with("[1,[2]]", "<4>");
        x.take(1, 0, 0, 0);
        DUE.is("it is THE SAME THING", x.shared(1, 0), 1);
    }

    private static void elseNone() {
        String[] things = {"5", "(5,6)", "[5,6]", "{a:5,b:6}", "#15"};
        String[] steps = {".0", ".1", "/0", "/1", "$a.", "#1", "#2", "*", "~", "%", "<1>", "=5;", "=6;"};
        String[] counts = {"0000000001110", "1100000022000", "0011000222000", "0000100222000", "0000010011000"};
        for (int i = 0; i < things.length; i++) {
            for (int j = 0; j < steps.length; j++) {
                NestedFoci x = Due.with(things[i], steps[j]);
                DUE.is("how many of " + steps[j] + " in " + things[i], x.fold(0, 0, 0), counts[i].charAt(j) - '0');
            }
        }
    }

    private static void paths() {
        NestedFoci x = new NestedFoci();
        for (int p = 0; p < 8; p++) {
            DUE.is("STEPS of PATH " + p, x.count(12 + p), 0);
            DUE.is("FOCI of PATH " + p, x.fold(0, p, 0), 1);
        }
        for (int p = 0; p < 8; p++) {
            DUE.is("path " + p, Due.path(x, p, "*".repeat(p)), p);
        }
        for (int p = 0; p < 8; p++) {
            DUE.is("each its own STEPS " + p, x.count(12 + p), p);
        }
        DUE.is("no PATH 8", x.fold(0, 8, 0), NestedFoci.NO);
        DUE.is("no PATH -1", x.fold(0, -1, 0), NestedFoci.NO);
        Due.feed(x, "*");
        DUE.is("path 8", x.path(8), NestedFoci.BAD);
        DUE.is("path -1", x.path(-1), NestedFoci.BAD);
    }
}
