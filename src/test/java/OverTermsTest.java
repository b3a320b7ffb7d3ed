import java.io.IOException;

/** The second part of the document's Terms, sentence by sentence: OVER, FIT, FOLDS, what two share, what is made. */
public final class OverTermsTest {
    private static final Due DUE = new Due();
    private static final int MIN = Integer.MIN_VALUE;
    private static final int MAX = Integer.MAX_VALUE;
    private static final long NO = NestedFoci.NO;

    public static void main(String[] args) throws IOException {
        Sentences s = new Sentences(DUE, "==== 2 OVER", "Answers:");
        s.heading("==== 2");
        sayOver(s);
        sayFit(s);
        sayFolds(s);
        sayTwo(s);
        s.say("UNDO: SHELVES remember, each its last 10 THINGS (one that a call below says \"becomes\");",
            OverTermsTest::remembered);
        s.say("as it is undone it becomes the last of these, which goes.", OverTermsTest::undone);
        s.say("THE SAME THING: what was made once is that wherever it is.", OverTermsTest::theSame);
        sayMade(s);
        s.say("AN IMAGE keeps what SHELVES hold, PATHS (what they remember is none then).", OverTermsTest::image);
        s.end();
        DUE.end();
    }

    private static void sayOver(Sentences s) {
        s.say("OVER (a PATH, how): each FOCUS, in their order, becomes what comes of it;", OverTermsTest::eachFocus);
        s.say("what has one in it that became another THING is made anew around it, once for each place at which it "
            + "stands (THE SAME THING at two places with FOCI in both: for each anew, counted so);",
            OverTermsTest::madeAround);
        s.say("all else stays THE SAME THING.", OverTermsTest::allElse);
        s.say("How: 0 n is added to NUMBERS;", OverTermsTest::added);
        s.say("1 NUMBERS times n;", OverTermsTest::times);
        s.say("2 n - NUMBER;", OverTermsTest::takenFrom);
        s.say("3 the number of the FOCUS (0 the first) is added to NUMBERS (others stay by 0 .. 3);",
            OverTermsTest::numbered);
        s.say("4 a PAIR of it and NUMBER n;", OverTermsTest::paired);
        s.say("5 it is TAGGED n;", OverTermsTest::tagged);
        s.say("6 a ROW of it alone;", OverTermsTest::alone);
        s.say("7 what is in the SHELF n;", OverTermsTest::given);
        s.say("8 a PAIR, its THINGS changed about, others stay;", OverTermsTest::changedAbout);
        s.say("9 a ROW the other way round, others stay;", OverTermsTest::otherWayRound);
        s.say("10 a ROW sorted as THINGS are ORDERED, others stay;", OverTermsTest::sorted);
        s.say("11 a MAP, each KEY's THING put to the KEY behind it, the last's to the first, others stay.",
            OverTermsTest::turned);
        s.say("(Int, wrapping.", OverTermsTest::wrapping);
        s.say("Where it doesn't say \"stay\", by 7 neither, it is another THING, even if ALIKE.)",
            OverTermsTest::anotherThing);
        s.say("What a FOCUS becomes isn't looked at anew.", OverTermsTest::notAnew);
    }

    private static void sayFit(Sentences s) {
        s.say("A PATH is LAWFUL for a THING and another one (w): (1) FOCI behind OVER with w (how 7) are as many as "
            + "ahead;", OverTermsTest::firstLaw);
        s.say("(2) all of them are ALIKE w;", OverTermsTest::secondLaw);
        s.say("(3) OVER with w, then with w again: ALIKE what came of the first.", OverTermsTest::thirdLaw);
        s.say("FIT: 1 if (1) is so, 2 if (2), 4 if (3), together.", OverTermsTest::fit);
    }

    private static void sayFolds(Sentences s) {
        s.say("FOLDS of FOCI: 0 how many;", OverTermsTest::howMany);
        s.say("1 the sum of all NUMBERS within them;", OverTermsTest::sum);
        s.say("2 the greatest (as ORDERED; its place);", OverTermsTest::greatest);
        s.say("3 the least (its place; of like ones the first);", OverTermsTest::least);
        s.say("4 how many unlike ones;", OverTermsTest::unlike);
        s.say("5 the HEIGHT of the highest;", OverTermsTest::highest);
        s.say("6 all NODES in them.", OverTermsTest::allNodes);
        s.say("SORTED: places of FOCI by an ORDER: 0 as ORDERED,", OverTermsTest::bestAsOrdered);
        s.say("1 by NODES, then as ORDERED,", OverTermsTest::bestByNodes);
        s.say("2 by HEIGHT, the highest first, then by NODES;", OverTermsTest::bestByHeight);
        s.say("of like ones the first first.", OverTermsTest::bestOfLikeOnes);
        s.say("BEST n of the FOCI by such an ORDER: the n-th of these.", OverTermsTest::bestN);
    }

    private static void sayTwo(Sentences s) {
        s.say("SHARED by two THINGS: how many of the one's NODES, itself too, are THE SAME THING as some of the "
            + "other's", OverTermsTest::shared);
        s.say("(of one that is so what is in it isn't counted any more).", OverTermsTest::sharedOnce);
        s.say("DIFFERENCE of THINGS p and q: ALIKE: none.", OverTermsTest::noDifference);
        s.say("Both PAIRS, both ROWS of a size, both MAPS of the same KEYS, both TAGGED alike: those of what is in "
            + "them, one by one.", OverTermsTest::differencesWithin);
        s.say("Else one: there p becomes q.", OverTermsTest::oneDifference);
        s.say("How many; where (the place of a NODE of p, counted as NODES are, itself 0, then what is in it, one by "
            + "one, each with what is in it).", OverTermsTest::whereDifferent);
    }

    private static void sayMade(Sentences s) {
        s.say("Made is: each THING of one that is read (each NODE), put together (one), by OVER: what a FOCUS becomes "
            + "by 0 .. 3 (a NUMBER), 5, 6, 8 .. 11 (one), 4 (two), and each that is made anew around one.",
            OverTermsTest::whatIsMade);
        s.say("MADE (-17): all calls, FIT's too (of which the two OVERS count), would have made more than 3000 "
            + "together", OverTermsTest::madeInAll);
        s.say("(OVER: those ahead of that are counted, 3000 then;", OverTermsTest::madeByOver);
        s.say("if it is FULL, all are;", OverTermsTest::madeByFullOver);
        s.say("put(), thing(): none).", OverTermsTest::madeByPutAndThing);
    }

    // ---- OVER

    private static void eachFocus() {
        DUE.over("[5,(5,6),5]", "%", 3, 0, 4, 6, "[5,(6,8),8]");
        DUE.over("{b:0,aa:0,a:0}", "*", 3, 0, 3, 4, "{a:0,b:1,aa:2}");
        DUE.over("[1,[2],3]", "*<1>", 0, 10, 2, 3, "[11,[2],13]");
        DUE.over("[1,2]", "/5", 0, 10, 0, 0, "[1,2]");
        DUE.over("[]", "*", 4, 10, 0, 0, "[]");
        DUE.over("7", "", 0, 10, 1, 1, "17");
    }

    private static void madeAround() {
        DUE.over("[[1,2],[3,(4,5)],#1{a:6}]", "%=4;", 0, 1, 1, 4, "[[1,2],[3,(5,5)],#1{a:6}]");
        DUE.over("[[1,2],[3,(4,5)],#1{a:6}]", "%=6;", 0, 1, 1, 4, "[[1,2],[3,(4,5)],#1{a:7}]");
        DUE.over("[[1,2],[3,4]]", "%", 0, 1, 4, 7, "[[2,3],[4,5]]");
        // FOCI that stay let what is around them stay
        DUE.over("[[[]],(1,[2])]", "~~", 0, 1, 3, 3, "[[[]],(2,[2])]");
        DUE.over("[[[]],([],[2])]", "~~", 0, 1, 3, 0, "[[[]],([],[2])]");
        NestedFoci x = Due.with("[1,2]", "%");
        x.put(1, 1, 0, 0, 0);
        x.put(1, 0, 1, 1, 0);
        int before = x.count(21);
        DUE.is("over THE SAME THING at four places", x.over(2, 1, 0, 0, 1), 8);
        DUE.is("made for each place", x.count(21) - before, 15);
        DUE.is("nothing is shared", x.shared(2, 1), 0);
        Due.path(x, 1, ".0/0");
        x.take(3, 2, 1, 0);
        Due.path(x, 2, ".1/1");
        x.take(4, 2, 2, 0);
        DUE.is("made anew for each, they are two", x.shared(3, 4), 0);
        DUE.is("if ALIKE", x.order(3, 4), 0);
        // a FOCUS in one of the places alone
        before = x.count(21);
        DUE.is("over one of these places", x.over(5, 1, 1, 9, 0), 1);
        DUE.is("that and what is around it", x.count(21) - before, 3);
        // beside the two NUMBERS in the one that was turned about: one ROW, and the two in the other ROW
        DUE.is("the other places stay", x.shared(5, 0), 2 + 1 + 2);
        DUE.is("each of them", x.shared(5, 1), 2 + 1 + 1);
    }

    private static void allElse() {
        NestedFoci x = Due.with("[[1,2],[3,(4,5)],6]", "/1.1");
        Due.path(x, 1, "/1/1.0");
        int before = x.count(21);
        x.over(1, 0, 1, 0, 1);
        DUE.is("made: the NUMBER and three around it", x.count(21) - before, 4);
        // [1,2], 3, 5 and 6 are THE SAME THINGS in both
        DUE.is("shared by both", x.shared(1, 0), 4);
        DUE.is("shared by both, asked the other way", x.shared(0, 1), 4);
        x.over(2, 0, 0, 0, 1);
        DUE.is("no FOCI: all of it stays", x.shared(2, 0), 1);
        Due.path(x, 2, "*");
        x.over(3, 0, 2, 8, 0);
        DUE.is("FOCI that stay: all of it stays", x.shared(3, 0), 1);
        x.over(4, 0, 2, 6, 0);
        DUE.is("what FOCI are put into is new, they stay", x.shared(4, 0), 3);
    }

    private static void added() {
        DUE.over("[1,-2,(3,4),[5]]", "*", 0, 10, 4, 3, "[11,8,(3,4),[5]]");
        DUE.over("[1,-2]", "*", 0, -3, 2, 3, "[-2,-5]");
        DUE.over("[1,-2]", "*", 0, 0, 2, 3, "[1,-2]");
    }

    private static void times() {
        DUE.over("[1,-2,(3,4),[5]]", "*", 1, 10, 4, 3, "[10,-20,(3,4),[5]]");
        DUE.over("[1,-2]", "*", 1, -3, 2, 3, "[-3,6]");
        DUE.over("[1,-2]", "*", 1, 0, 2, 3, "[0,0]");
    }

    private static void takenFrom() {
        DUE.over("[1,-2,(3,4),[5]]", "*", 2, 10, 4, 3, "[9,12,(3,4),[5]]");
        DUE.over("[1,-2]", "*", 2, 0, 2, 3, "[-1,2]");
    }

    private static void numbered() {
        DUE.over("[5,5,5]", "*", 3, 77, 3, 4, "[5,6,7]");
        // all FOCI have their numbers, those that stay too
        DUE.over("[(1,2),5,[],5]", "*", 3, 0, 4, 3, "[(1,2),6,[],8]");
        DUE.over("[5,(5,[5])]", "%", 3, 0, 3, 6, "[5,(6,[7])]");
        for (int how = 0; how <= 3; how++) {
            DUE.over("[(1,2),[3],{a:4},#56,[]]", "*", how, 9, 5, 0, "[(1,2),[3],{a:4},#56,[]]");
        }
        // the number is another one's in each OVER
        NestedFoci x = Due.with("[5,5]", "*");
        x.over(0, 0, 0, 3, 0);
        x.over(0, 0, 0, 3, 0);
        DUE.holds("twice numbered", x, 0, "[5,7]");
    }

    private static void paired() {
        DUE.over("7", "", 4, -9, 1, 2, "(7,-9)");
        DUE.over("[1,[2]]", "*", 4, 9, 2, 5, "[(1,9),([2],9)]");
        DUE.over("{a:{}}", "*", 4, 0, 1, 3, "{a:({},0)}");
        NestedFoci x = Due.with("[1]", "");
        x.over(1, 0, 0, 4, 0);
        DUE.is("it stays THE SAME THING in the PAIR", x.shared(1, 0), 1);
    }

    private static void tagged() {
        DUE.over("7", "", 5, 0, 1, 1, "#07");
        DUE.over("[1,[2]]", "*", 5, 9, 2, 3, "[#91,#9[2]]");
        DUE.over("#1(2,3)", "", 5, 1, 1, 1, "#1#1(2,3)");
    }

    private static void alone() {
        DUE.over("7", "", 6, 99, 1, 1, "[7]");
        DUE.over("[1,[2]]", "*", 6, 0, 2, 3, "[[1],[[2]]]");
        DUE.over("[]", "", 6, 0, 1, 1, "[[]]");
    }

    private static void given() {
        NestedFoci x = Due.with("[1,2,3]", "*");
        for (int n = 0; n < 12; n++) {
            NestedFoci y = Due.with("[1,2]", "/0");
            Due.thing(y, n, n == 0 ? "[1,2]" : "(4,5)");
            DUE.is("over by SHELF " + n, y.over(n == 1 ? 2 : 1, 0, 0, 7, n), 1);
            DUE.is("THE SAME THING as in " + n, y.shared(n, n == 1 ? 2 : 1), 1);
        }
        Due.thing(x, 1, "(4,5)");
        int before = x.count(21);
        DUE.is("over all three", x.over(2, 0, 0, 7, 1), 3);
        DUE.is("made around them alone", x.count(21) - before, 1);
        DUE.holds("over all three", x, 2, "[(4,5),(4,5),(4,5)]");
        DUE.is("it is there thrice", x.shared(2, 1), 3);
        DUE.is("what a SHELF itself holds, given", x.over(0, 0, 0, 7, 0), 3);
        DUE.holds("as it was ahead", x, 0, "[[1,2,3],[1,2,3],[1,2,3]]");
    }

    private static void changedAbout() {
        DUE.over("(1,2)", "", 8, 0, 1, 1, "(2,1)");
        DUE.over("(1,1)", "", 8, 0, 1, 1, "(1,1)");
        DUE.over("((1,2),[3,4])", "", 8, 0, 1, 1, "([3,4],(1,2))");
        DUE.over("[[1,2],{a:1,b:2},#1(1,2),5,[]]", "*", 8, 0, 5, 0, "[[1,2],{a:1,b:2},#1(1,2),5,[]]");
    }

    private static void otherWayRound() {
        DUE.over("[1,2,3]", "", 9, 0, 1, 1, "[3,2,1]");
        DUE.over("[1,2,3,4,5,6,7,8,9,10,11,12]", "", 9, 0, 1, 1, "[12,11,10,9,8,7,6,5,4,3,2,1]");
        DUE.over("[1]", "", 9, 0, 1, 1, "[1]");
        DUE.over("[]", "", 9, 0, 1, 1, "[]");
        DUE.over("[(1,2),{a:1,b:2},#1[1,2],5]", "*", 9, 0, 4, 0, "[(1,2),{a:1,b:2},#1[1,2],5]");
    }

    private static void sorted() {
        DUE.over("[3,1,2]", "", 10, 0, 1, 1, "[1,2,3]");
        DUE.over("[#00,{a:1},{},[1],[],(1,1),(0,9),5,-5]", "", 10, 0, 1, 1, "[-5,5,(0,9),(1,1),[],[1],{},{a:1},#00]");
        DUE.over("[12,11,10,9,8,7,6,5,4,3,2,1]", "", 10, 0, 1, 1, "[1,2,3,4,5,6,7,8,9,10,11,12]");
        DUE.over("[1,2,3]", "", 10, 0, 1, 1, "[1,2,3]");
        DUE.over("[]", "", 10, 0, 1, 1, "[]");
        DUE.over("[7]", "", 10, 0, 1, 1, "[7]");
        DUE.over("[(2,1),{a:2,b:1},#1[2,1],5]", "*", 10, 0, 4, 0, "[(2,1),{a:2,b:1},#1[2,1],5]");
        // what is in it isn't sorted in turn, and like ones keep their order
        DUE.over("[[2,1],[1,9]]", "", 10, 0, 1, 1, "[[1,9],[2,1]]");
        NestedFoci x = Due.with("[5,3,5]", "");
        Due.path(x, 1, "/0");
        Due.path(x, 2, "/1");
        x.take(1, 0, 1, 0);
        x.over(2, 0, 0, 10, 0);
        x.take(3, 2, 2, 0);
        DUE.is("the first of like ones first", x.shared(3, 1), 1);
    }

    private static void turned() {
        DUE.over("{a:1,b:2,aa:3}", "", 11, 0, 1, 1, "{a:3,b:1,aa:2}");
        DUE.over("{a:[],b:2}", "", 11, 0, 1, 1, "{a:2,b:[]}");
        DUE.over("{zz:1}", "", 11, 0, 1, 1, "{zz:1}");
        DUE.over("{}", "", 11, 0, 1, 1, "{}");
        DUE.over("{a:1,b:2,c:3,d:4,e:5,f:6,g:7,h:8,i:9,j:10,k:11,l:12}", "", 11, 0, 1, 1,
            "{a:12,b:1,c:2,d:3,e:4,f:5,g:6,h:7,i:8,j:9,k:10,l:11}");
        DUE.over("[(1,2),[1,2],#1{a:1,b:2},5]", "*", 11, 0, 4, 0, "[(1,2),[1,2],#1{a:1,b:2},5]");
    }

    /** A NUMBER becomes what is to come of it by how and n. */
    private static void wraps(int worth, int how, int n, int due) {
        NestedFoci x = new NestedFoci();
        x.over(0, 0, 0, 0, worth);
        DUE.is("over how " + how, x.over(1, 0, 0, how, n), 1);
        DUE.is(worth + " by how " + how + " and " + n, x.look(1, 0, 0, 1), due);
    }

    private static void wrapping() {
        wraps(MAX, 0, 1, MIN);
        wraps(MIN, 0, -1, MAX);
        wraps(MAX, 0, MAX, -2);
        wraps(MIN, 0, MIN, 0);
        wraps(MAX, 1, 2, -2);
        wraps(MIN, 1, -1, MIN);
        wraps(MIN, 1, 2, 0);
        wraps(65536, 1, 65536, 0);
        wraps(MIN, 2, 0, MIN);
        wraps(1, 2, MIN, MAX);
        wraps(-1, 2, MAX, MIN);
        NestedFoci x = Due.with("[0,0]", "*");
        x.over(0, 0, 0, 0, MAX);
        x.over(0, 0, 0, 3, 0);
        DUE.is("the first by its number", x.look(0, 0, 0, 1), MAX);
        DUE.is("the second by its number wraps", x.look(0, 0, 1, 1), MIN);
        x.over(1, 0, 0, 4, MIN);
        Due.path(x, 1, "*.1");
        DUE.is("NUMBER n of a PAIR", x.look(1, 1, 0, 1), MIN);
    }

    /** What comes of the THING itself is another one, yet as it says ALIKE. */
    private static void another(String thing, int how, int n) {
        NestedFoci x = Due.with(thing, "");
        int before = x.count(21);
        x.over(1, 0, 0, how, n);
        DUE.is("made by how " + how + " of " + thing, x.count(21) - before, 1);
        DUE.is("ALIKE by how " + how + " of " + thing, x.order(1, 0), 0);
        // all that is just in it is still shared, however it was changed about
        long inIt = x.look(0, 0, 0, 0) == 0 ? 0 : x.look(0, 0, 0, 1);
        DUE.is("another by how " + how + " of " + thing, x.shared(1, 0), inIt);
    }

    private static void anotherThing() {
        another("5", 0, 0);
        another("5", 1, 1);
        another("0", 2, 0);
        another("5", 3, 0);
        another("(1,1)", 8, 0);
        another("[]", 9, 0);
        another("[1,1]", 9, 0);
        another("[1,2]", 10, 0);
        another("[]", 10, 0);
        another("{}", 11, 0);
        another("{a:1}", 11, 0);
        another("{a:1,b:1}", 11, 0);
        // by 7: another THING is put even if ALIKE, so what is around is made anew
        NestedFoci x = Due.with("[(1,2),3]", "/0");
        Due.thing(x, 1, "(1,2)");
        int before = x.count(21);
        DUE.is("over by one that is ALIKE", x.over(2, 0, 0, 7, 1), 1);
        DUE.is("made around it", x.count(21) - before, 1);
        DUE.is("ALIKE", x.order(2, 0), 0);
        DUE.is("the other one is in it", x.shared(2, 1), 1);
        DUE.is("only the 3 is as it was", x.shared(2, 0), 1);
    }

    private static void notAnew() {
        DUE.over("[1,2]", "%", 6, 0, 2, 3, "[[1],[2]]");
        DUE.over("[1,2,2]", "*=1;", 0, 1, 1, 2, "[2,2,2]");
        DUE.over("[[1],2]", "*<2>", 6, 0, 2, 3, "[[[1]],[2]]");
        DUE.over("#1#12", "#1", 5, 1, 1, 2, "#1#1#12");
        NestedFoci x = Due.with("[1,2]", "%");
        x.over(0, 0, 0, 7, 0);
        DUE.holds("what is given has NUMBERS too", x, 0, "[[1,2],[1,2]]");
    }

    // ---- FIT

    private static void firstLaw() {
        DUE.fit("[1,2,3]", "*", "[4,5]", 1 + 2 + 4, 1);
        // behind the OVER there are more of them, fewer, none
        DUE.fit("5", "%", "[1,2]", 0, 1);
        DUE.fit("5", "%", "[1]", 1, 1);
        DUE.fit("5", "%", "[]", 2 + 4, 0);
        DUE.fit("[1,2,3]", "*=2;", "9", 2 + 4, 1);
        DUE.fit("[1,1]", "=3;", "9", 1 + 2 + 4, 0);
        DUE.fit("[3,[3]]", "%=3;", "3", 1 + 2 + 4, 2);
    }

    private static void secondLaw() {
        DUE.fit("(1,2)", ".0", "5", 1 + 2 + 4, 1);
        DUE.fit("[7]", "/0", "[7]", 1 + 2 + 4, 1);
        // one of two is not
        DUE.fit("[1,[2]]", "~%", "[2]", 1, 2 + 4);
        DUE.fit("[1]", "%", "[1]", 1, 1 + 2);
        DUE.fit("[]", "*", "7", 1 + 2 + 4, 0);
        DUE.fit("[5]", "<2>", "[[1,2]]", 2 + 4, 0);
        DUE.fit("[5]", "<2>", "[1]", 1 + 2 + 4, 0);
    }

    private static void thirdLaw() {
        DUE.fit("{a:1,b:2}", "$a.", "{a:3}", 1 + 2 + 4, 1);
        // the first OVER makes FOCI that the second one changes once more
        DUE.fit("1", "%", "(1,2)", 0, 0 + 1);
        DUE.fit("(1,2)", ".0", "(3,4)", 1 + 2 + 4, 1);
        DUE.fit("(1,2)", "%", "(3,4)", 0, 1 + 3);
        DUE.fit("[1]", "%", "[]", 2 + 4, 1);
    }

    private static void fit() {
        DUE.fit("0", "~", "0", 7, 0);
        DUE.fit("1", "%", "[1,2]", 0, 1);
        DUE.fit("1", "%", "[2]", 1, 1);
        DUE.fit("1", "%", "{}", 6, 0);
        DUE.fit("1", "=1;", "2", 6, 0);
        DUE.fit("1", "=1;", "1", 7, 0);
    }

    // ---- FOLDS and BEST

    private static void fold(String thing, String path, int code, long due) {
        DUE.is("fold " + code + " of " + path + " in " + thing, Due.with(thing, path).fold(0, 0, code), due);
    }

    private static void howMany() {
        fold("[1,2,(3,4)]", "*", 0, 3);
        fold("[1,2,(3,4)]", "", 0, 1);
        fold("[1,2,(3,4)]", "%", 0, 4);
        fold("[]", "*", 0, 0);
        fold("7", "*", 0, 0);
    }

    private static void sum() {
        fold("[1,-2,(3,[4]),{a:#15}]", "*", 1, 11);
        fold("[1,-2,(3,[4]),{a:#15}]", "", 1, 11);
        fold("[1,-2,(3,[4]),{a:#15}]", "*<1>", 1, -1);
        fold("[[],{}]", "*", 1, 0);
        fold("[]", "*", 1, 0);
        NestedFoci x = Due.with("[0,0,0,0,0,0,0,0,0,0,0,0]", "*");
        x.over(0, 0, 0, 0, MAX);
        DUE.is("beyond int", x.fold(0, 0, 1), 12L * MAX);
        x.over(0, 0, 0, 0, 1);
        DUE.is("below int", x.fold(0, 0, 1), 12L * MIN);
    }

    private static void greatest() {
        fold("[3,9,5]", "*", 2, 1);
        fold("[99,(0,0),[],{},#00]", "*", 2, 4);
        fold("[99,(0,0),[7],[8],{}]", "*", 2, 4);
        fold("[7]", "*", 2, 0);
        fold("[]", "*", 2, NO);
        fold("[(1,5),(1,6),(0,9)]", "*", 2, 1);
    }

    private static void least() {
        fold("[3,1,5]", "*", 3, 1);
        fold("[3,1,1]", "*", 3, 1);
        fold("[1,1,1]", "*", 3, 0);
        fold("[#00,{},[],(0,0),99]", "*", 3, 4);
        fold("[[],{},[],(1,1),(1,1)]", "*", 3, 3);
        fold("[]", "*", 3, NO);
        NestedFoci x = Due.with("[0,0]", "*");
        x.over(0, 0, 0, 0, MAX);
        Due.path(x, 1, "/1");
        x.over(0, 0, 1, 0, 1);
        DUE.is("MAX and MIN", x.fold(0, 0, 3), 1);
        DUE.is("MAX and MIN, the greatest", x.fold(0, 0, 2), 0);
    }

    private static void unlike() {
        fold("[1,2,1,1,2]", "*", 4, 2);
        fold("[1,(1,1),[1,1],(1,1),{},[],{}]", "*", 4, 5);
        fold("[7,7,7]", "*", 4, 1);
        fold("[]", "*", 4, 0);
        fold("[1,2,3]", "*", 4, 3);
        fold("[{a:1},{b:1},{a:1}]", "*", 4, 2);
        fold("[#12,#22,#12]", "*", 4, 2);
    }

    private static void highest() {
        fold("[1,[[2]],[3]]", "*", 5, 2);
        fold("[1,[[2]],[3]]", "", 5, 3);
        fold("[1,2]", "*", 5, 0);
        fold("[[]]", "*", 5, 0);
        fold("[]", "*", 5, NO);
    }

    private static void allNodes() {
        fold("[1,[[2]],[3]]", "*", 6, 6);
        fold("[1,[[2]],[3]]", "", 6, 7);
        fold("[]", "*", 6, 0);
        fold("[]", "", 6, 1);
        NestedFoci x = Due.with("[1,2]", "*");
        x.put(1, 1, 0, 0, 0);
        DUE.is("THE SAME THING counts twice", x.fold(1, 0, 6), 6);
    }

    private static void bestAsOrdered() {
        DUE.best("[#00,5,{},-5,[],(0,0)]", 0, 3, 1, 5, 4, 2, 0);
        DUE.best("[(1,2),(1,1),(0,9)]", 0, 2, 1, 0);
    }

    private static void bestByNodes() {
        DUE.best("[[1,2],9,(1,2),[],[3],5]", 1, 5, 1, 3, 4, 2, 0);
        DUE.best("[[1,1,1],#1#1#12,[[2]],{a:3}]", 1, 3, 2, 0, 1);
    }

    private static void bestByHeight() {
        DUE.best("[9,[1,2],[[1]],5,[3],[[1,1]]]", 2, 2, 5, 4, 1, 0, 3);
        DUE.best("[[],[9,9],(1,1),[7]]", 2, 3, 1, 2, 0);
    }

    private static void bestOfLikeOnes() {
        DUE.best("[2,1,2,1]", 0, 1, 3, 0, 2);
        DUE.best("[2,1,2,1]", 1, 1, 3, 0, 2);
        // by 2, of one HEIGHT and as many NODES are like ones, however they are ORDERED
        DUE.best("[2,1,2,1]", 2, 0, 1, 2, 3);
        DUE.best("[[9],#11,{a:5},[1]]", 2, 0, 1, 2, 3);
    }

    private static void bestN() {
        NestedFoci x = Due.with("[30,10,20]", "*");
        int[] due = {1, 2, 0};
        for (int n = 0; n < 3; n++) {
            DUE.is("BEST " + n, x.best(0, 0, 0, n), due[n]);
        }
        DUE.is("BEST 3", x.best(0, 0, 0, 3), NestedFoci.NONE);
        DUE.is("BEST -1", x.best(0, 0, 0, -1), NestedFoci.NONE);
        DUE.best("[]", 0);
        DUE.best("[]", 1);
        DUE.best("[]", 2);
    }

    // ---- two THINGS

    private static void shared() {
        NestedFoci x = Due.with("[1,(2,3),[4]]", "*");
        DUE.is("with itself", x.shared(0, 0), 1);
        Due.thing(x, 1, "[1,(2,3),[4]]");
        DUE.is("ALIKE, but none the same", x.shared(0, 1), 0);
        x.take(2, 0, 0, 0);
        DUE.is("a NUMBER in it", x.shared(2, 0), 1);
        DUE.is("it has that NUMBER", x.shared(0, 2), 1);
        x.put(3, 1, 2, 2, 0);
        DUE.is("at two places of the one", x.shared(3, 0), 2);
        DUE.is("of the other, at one", x.shared(0, 3), 1);
        x.over(4, 0, 0, 5, 1);
        DUE.is("all that was in it", x.shared(4, 0), 3);
        x.over(5, 4, 0, 8, 0);
        DUE.is("nothing changed", x.shared(5, 4), 1);
        DUE.is("none", x.shared(0, 11), 0);
    }

    private static void sharedOnce() {
        NestedFoci x = Due.with("[[1,2],[3]]", "/0");
        x.take(1, 0, 0, 0);
        x.put(2, 0, 1, 1, 0);
        DUE.is("two ROWS, not what is in them", x.shared(2, 0), 2);
        x.over(3, 0, 0, 9, 0);
        // [3] counts once, 1 and 2 each
        DUE.is("those of what is made anew", x.shared(3, 0), 3);
        DUE.is("all of it counts once", x.shared(0, 0), 1);
    }

    private static void noDifference() {
        for (String text : new String[] {"0", "(1,2)", "[]", "[1,[2]]", "{}", "{a:1}", "#1[]"}) {
            DUE.differ(text, text);
        }
        DUE.differ("[-0]", "[0]");
        NestedFoci x = Due.with("[1]", "");
        DUE.is("of THE SAME THING", x.differ(0, 0, -1), 0);
    }

    private static void differencesWithin() {
        DUE.differ("(1,2)", "(3,4)", 1, 2);
        DUE.differ("[1,2,3]", "[0,2,0]", 1, 3);
        DUE.differ("{a:1,b:2}", "{b:0,a:1}", 2);
        DUE.differ("#1(2,3)", "#1(2,4)", 3);
        DUE.differ("([1,{a:#23}],4)", "([0,{a:#25}],4)", 2, 5);
        DUE.differ("[(1,1),(1,1)]", "[(1,2),(2,1)]", 3, 5);
        DUE.differ("[[[1]]]", "[[[2]]]", 3);
    }

    private static void oneDifference() {
        DUE.differ("1", "2", 0);
        DUE.differ("(1,2)", "[1,2]", 0);
        DUE.differ("[1,2]", "[1,2,3]", 0);
        DUE.differ("[]", "[1]", 0);
        DUE.differ("[]", "{}", 0);
        DUE.differ("{a:1}", "{b:1}", 0);
        DUE.differ("{a:1,b:2}", "{a:1}", 0);
        DUE.differ("#12", "#22", 0);
        DUE.differ("#12", "2", 0);
        DUE.differ("5", "(5,5)", 0);
        DUE.differ("[(1,2),3]", "[[1,2],3]", 1);
        DUE.differ("{a:{b:1},b:{b:1}}", "{a:{c:1},b:{b:1}}", 1);
    }

    private static void whereDifferent() {
        DUE.differ("[1,[2,(3,4)],5]", "[0,[0,(0,0)],0]", 1, 3, 5, 6, 7);
        DUE.differ("[(1,2),(3,4),5]", "[7,(3,4),6]", 1, 7);
        DUE.differ("{a:(1,2),b:3}", "{a:(1,0),b:0}", 3, 4);
        NestedFoci x = Due.with("[1,2]", "%");
        x.put(1, 1, 0, 0, 0);
        x.over(2, 1, 0, 0, 1);
        int[] due = {2, 3, 5, 6};
        DUE.is("how many", x.differ(1, 2, -1), 4);
        for (int k = 0; k < 4; k++) {
            DUE.is("where, as often as it is there " + k, x.differ(1, 2, k), due[k]);
        }
        DUE.is("none behind", x.differ(1, 2, 4), NestedFoci.NONE);
    }

    // ---- what is remembered, what is made, what is kept

    private static void remembered() {
        NestedFoci x = new NestedFoci();
        for (int i = 1; i <= 10; i++) {
            Due.thing(x, 4, "" + i);
            DUE.is("remembers " + i, x.count(4), i);
        }
        Due.thing(x, 4, "11");
        DUE.is("no more than 10", x.count(4), 10);
        for (int i = 10; i >= 1; i--) {
            DUE.is("undone", x.undo(4), i - 1);
            DUE.is("to " + i, x.look(4, 0, 0, 1), i);
        }
        DUE.is("the 11th before, 0, is forgotten", x.undo(4), NestedFoci.STATE);
        // thing, over, put and take say "becomes"; what else there is doesn't
        NestedFoci y = Due.with("[1,2]", "*");
        DUE.is("by thing", y.count(0), 1);
        y.over(0, 0, 0, 0, 1);
        DUE.is("by over", y.count(0), 2);
        y.put(0, 1, 0, 0, 0);
        DUE.is("by put", y.count(0), 3);
        y.take(0, 0, 0, 0);
        DUE.is("by take", y.count(0), 4);
        Due.path(y, 1, "/7");
        y.over(0, 0, 1, 0, 1);
        DUE.is("by an OVER that makes nothing", y.count(0), 5);
        y.fit(0, 0, 1);
        y.join(0, 0);
        y.image();
        y.over(1, 0, 0, 0, 1);
        DUE.is("by nothing else", y.count(0), 5);
        y.undo(0);
        DUE.is("not by undo", y.count(0), 4);
    }

    private static void undone() {
        NestedFoci x = Due.with("[1]", "*");
        x.over(1, 0, 0, 0, 5);
        x.take(0, 1, 0, 0);
        DUE.is("undone once", x.undo(0), 1);
        DUE.holds("undone once", x, 0, "[1]");
        x.over(2, 0, 0, 8, 0);
        DUE.is("it is THE SAME THING", x.shared(2, 0), 1);
        DUE.is("undone twice", x.undo(0), 0);
        DUE.holds("undone twice", x, 0, "0");
        DUE.is("no more", x.undo(0), NestedFoci.STATE);
        DUE.is("each SHELF its own", x.undo(1), 0);
        Due.thing(x, 0, "7");
        Due.thing(x, 0, "8");
        x.undo(0);
        Due.thing(x, 0, "9");
        x.undo(0);
        DUE.is("what it was undone to", x.look(0, 1, 0, 1), 7);
        x.undo(0);
        DUE.is("and ahead of it", x.look(0, 1, 0, 1), 0);
    }

    private static void theSame() {
        NestedFoci x = Due.with("[(1,2),3]", "/0");
        x.take(1, 0, 0, 0);
        DUE.is("as it is taken", x.shared(1, 0), 1);
        x.put(2, 0, 1, 1, 0);
        DUE.is("as it is put together", x.shared(2, 1), 2);
        x.over(3, 2, 1, 5, 1);
        DUE.is("as it is tagged", x.shared(3, 2), 1);
        x.over(4, 0, 0, 7, 2);
        DUE.is("as it is given", x.shared(4, 2), 1);
        Due.thing(x, 1, "9");
        x.undo(1);
        DUE.is("as it is undone", x.shared(1, 0), 1);
        x.image();
        Due.thing(x, 0, "9");
        x.back();
        DUE.is("as it comes back", x.shared(1, 0), 1);
        Due.thing(x, 5, "(1,2)");
        DUE.is("as it is read once more it is another", x.shared(5, 0), 0);
    }

    private static void whatIsMade() {
        NestedFoci x = new NestedFoci();
        DUE.is("none at first", x.count(21), 0);
        Due.thing(x, 0, "[1,(2,3),{a:[]},#45]");
        DUE.is("each NODE that is read", x.count(21), 9);
        for (int what = 0; what <= 1; what++) {
            x.put(1, what, 0, 0, 0);
            DUE.is("one by put " + what, x.count(21), 10 + what);
        }
        Due.thing(x, 2, "{}");
        x.put(2, 2, 2, 0, 0);
        DUE.is("one by put 2", x.count(21), 13);
        x.put(2, 2, 2, 0, 0);
        DUE.is("one by put 2 again, be it THE SAME", x.count(21), 14);
        String[] of = {"5", "5", "5", "5", "5", "5", "5", "5", "(1,2)", "[1,2]", "[2,1]", "{a:1,b:2}"};
        int[] due = {1, 1, 1, 1, 2, 1, 1, 0, 1, 1, 1, 1};
        for (int how = 0; how < 12; how++) {
            NestedFoci y = Due.with(of[how], "");
            int before = y.count(21);
            y.over(1, 0, 0, how, 2);
            DUE.is("made of a FOCUS by how " + how, y.count(21) - before, due[how]);
            NestedFoci z = Due.with("[[" + of[how] + "],#1" + of[how] + "]", "~~");
            before = z.count(21);
            z.over(1, 0, 0, how, 2);
            DUE.is("and around two by how " + how, z.count(21) - before, 2 * due[how] + 3);
        }
        NestedFoci y = Due.with("[1,2]", "*");
        y.take(1, 0, 0, 0);
        y.undo(1);
        y.image();
        y.back();
        y.join(0, 0);
        y.fold(0, 0, 1);
        DUE.is("nothing by other calls", y.count(21), 3);
    }

    private static void madeInAll() {
        NestedFoci x = DUE.spent(2999);
        DUE.is("up to 3000 by put", x.put(5, 0, 3, 3, 0), 3);
        DUE.is("3000", x.count(21), 3000);
        DUE.is("more by put", x.put(5, 0, 3, 3, 0), NestedFoci.MADE);
        DUE.is("more by over", x.over(5, 3, 6, 0, 1), NestedFoci.MADE);
        Due.feed(x, "1");
        DUE.is("more by thing", x.thing(5), NestedFoci.MADE);
        DUE.is("3000 still", x.count(21), 3000);
        NestedFoci y = DUE.spent(2999);
        Due.feed(y, "1");
        DUE.is("up to 3000 by thing", y.thing(5), 1);
        NestedFoci z = DUE.spent(2998);
        Due.feed(z, "[1,1]");
        DUE.is("up to 3001 by thing", z.thing(5), NestedFoci.MADE);
        DUE.is("up to 3000 by over", z.over(5, 3, 6, 4, 1), 1);
        fitInAll();
    }

    /** FIT of what makes one by the first OVER and one by the second. */
    private static void fitInAll() {
        for (int left = 0; left <= 5; left++) {
            NestedFoci x = DUE.spent(3000 - 3 - left);
            Due.thing(x, 5, "(1,2)");
            Due.path(x, 0, "%");
            // around the two NUMBERS one is made, then three around the four in these
            DUE.is("fit with " + left + " left", x.fit(5, 0, 5), left >= 4 ? 0 : NestedFoci.MADE);
            DUE.is("made by fit with " + left + " left", x.count(21), left >= 5 ? 2999 : 3000);
        }
    }

    private static void madeByOver() {
        for (int left = 0; left <= 5; left++) {
            NestedFoci x = DUE.spent(3000 - 3 - left);
            Due.thing(x, 5, "[1,2]");
            Due.path(x, 0, "%");
            // two NUMBERS, two PAIRS, one ROW
            DUE.is("over with " + left + " left", x.over(6, 5, 0, 4, 1), left == 5 ? 2 : NestedFoci.MADE);
            DUE.is("3000 then, with " + left + " left", x.count(21), 3000);
            DUE.is("it became with " + left + " left", x.count(6), left == 5 ? 1 : 0);
            DUE.is("on SHELF 5 still, with " + left + " left", x.fold(5, 0, 1), 3);
        }
    }

    private static void madeByFullOver() {
        NestedFoci x = Due.with("[" + "[1,1,1,1,1,1,1,1,1,1,1,1],".repeat(3) + "[1,1,1,1,1,1,1,1,1]]", "%");
        int nodes = 1 + 3 * 13 + 10;
        x.put(1, 1, 0, 0, 0);
        int before = x.count(21);
        DUE.is("made ahead", before, nodes + 1);
        DUE.is("NODES", x.look(1, 1, 0, 2), 1 + 2 * nodes);
        DUE.is("over that is FULL", x.over(2, 1, 0, 4, 1), NestedFoci.FULL);
        int around = 1 + 2 * 5;
        DUE.is("all of it is counted", x.count(21) - before, 2 * (2 * 45) + around);
        DUE.is("nothing became", x.count(2), 0);
        DUE.is("a second time as well", x.over(2, 1, 0, 4, 1), NestedFoci.FULL);
        DUE.is("all of it is counted again", x.count(21) - before, 2 * (2 * (2 * 45) + around));
        before = x.count(21);
        DUE.is("fit that is FULL by its first OVER", x.fit(1, 0, 0), NestedFoci.FULL);
        DUE.is("that one is counted", x.count(21) - before, around);
    }

    private static void madeByPutAndThing() {
        NestedFoci x = Due.with("[".repeat(12) + "1" + "]".repeat(12), "");
        DUE.is("put that is FULL", x.put(1, 0, 0, 0, 0), NestedFoci.FULL);
        DUE.is("counts none", x.count(21), 13);
        Due.thing(x, 1, "[1,2");
        DUE.is("thing with a FAULT counts none", x.count(21), 13);
        NestedFoci y = DUE.spent(2990);
        Due.feed(y, "[1,2,3,4,5,6,7,8,9,10]");
        DUE.is("thing of 11 with 10 left", y.thing(5), NestedFoci.MADE);
        DUE.is("counts none", y.count(21), 2990);
        Due.feed(y, "[1,2,3,4,5,6,7,8,9]");
        DUE.is("thing of 10", y.thing(5), 10);
        DUE.is("put with none left", y.put(5, 0, 3, 3, 0), NestedFoci.MADE);
        DUE.is("counts none then", y.count(21), 3000);
    }

    private static void image() {
        NestedFoci x = Due.with("[1,2]", "*");
        Due.path(x, 7, ".0");
        Due.thing(x, 11, "(5,6)");
        x.image();
        DUE.is("remembered still, as it is kept", x.count(0), 1);
        x.take(0, 0, 0, 1);
        Due.thing(x, 5, "9");
        Due.thing(x, 11, "9");
        Due.path(x, 0, "");
        Due.path(x, 7, "%%");
        Due.path(x, 3, "~");
        Due.feed(x, "[7]");
        int made = x.count(21);
        x.back();
        DUE.is("THE TAPE isn't kept", x.count(20), 3);
        DUE.is("what is made isn't", x.count(21), made);
        DUE.is("PATH 0", x.count(12), 1);
        DUE.is("PATH 3", x.count(15), 0);
        DUE.is("PATH 7", x.fold(11, 7, 1), 5);
        for (int i = 0; i < 12; i++) {
            DUE.is("remembers none " + i, x.count(i), 0);
        }
        DUE.is("undo then", x.undo(0), NestedFoci.STATE);
        DUE.is("THE TAPE then", x.thing(4), 2);
        DUE.holds("SHELF 0", x, 0, "[1,2]");
        DUE.holds("SHELF 5", x, 5, "0");
    }
}
