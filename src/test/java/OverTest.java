/** Promises 6, 7, 8, 9 and 17: over, put, take, undo, fit; what is made and what stays THE SAME THING. */
public final class OverTest {
    private static final Due DUE = new Due();

    public static void main(String[] args) {
        numbers();
        frames();
        orders();
        given();
        whatIsMade();
        sharedPlaces();
        overBad();
        overFull();
        overMade();
        put();
        putTrouble();
        take();
        undo();
        remembersTen();
        fit();
        fitBehindMore();
        fitTrouble();
        DUE.end();
    }

    private static void numbers() {
        DUE.over("[1,-2,(3,4)]", "*", 0, 10, 3, 3, "[11,8,(3,4)]");
        DUE.over("[1,-2,(3,4)]", "*", 1, -3, 3, 3, "[-3,6,(3,4)]");
        DUE.over("[1,-2,(3,4)]", "*", 2, 10, 3, 3, "[9,12,(3,4)]");
        DUE.over("[(3,4),5,6]", "*", 3, 100, 3, 3, "[(3,4),6,8]");
        DUE.over("[1,(2,{a:3}),#4[5]]", "%", 3, 0, 4, 9, "[1,(3,{a:5}),#4[8]]");
        DUE.over("7", "", 0, 1, 1, 1, "8");
        DUE.over("7", "%", 1, 2, 1, 1, "14");
        DUE.over("7", "*", 0, 1, 0, 0, "7");
        DUE.over("[]", "*", 0, 1, 0, 0, "[]");
        DUE.over("[(1,2)]", "*", 0, 5, 1, 0, "[(1,2)]");
        DUE.over("[1]", "*", 0, 0, 1, 2, "[1]");
        DUE.over("[1]", "*", 1, 1, 1, 2, "[1]");
        wrapping(0, Integer.MAX_VALUE, 1, Integer.MIN_VALUE);
        wrapping(1, Integer.MAX_VALUE, 2, -2);
        wrapping(2, Integer.MIN_VALUE, 1, Integer.MAX_VALUE);
    }

    /** A NUMBER wraps about as ints do: n to NUMBER 1 (n - 1 by how 2), then once more by how and other. */
    private static void wrapping(int how, int n, int other, int worth) {
        NestedFoci x = Due.with(how == 2 ? "1" : "0", "");
        if (how == 2) {
            x.over(0, 0, 0, 2, n);
        } else {
            x.over(0, 0, 0, 0, n);
            x.over(0, 0, 0, how, other);
        }
        DUE.is("wrapping by how " + how, x.look(0, 0, 0, 1), worth);
    }

    private static void frames() {
        DUE.over("[1,[2]]", "*", 4, 9, 2, 5, "[(1,9),([2],9)]");
        DUE.over("[1,[2]]", "*", 5, 3, 2, 3, "[#31,#3[2]]");
        DUE.over("[1,[2]]", "*", 6, 77, 2, 3, "[[1],[[2]]]");
        DUE.over("1", "", 4, -5, 1, 2, "(1,-5)");
        DUE.over("#3(1,2)", "#3", 5, 0, 1, 2, "#3#0(1,2)");
        DUE.over("#3(1,2)", "#4", 5, 0, 0, 0, "#3(1,2)");
    }

    private static void orders() {
        DUE.over("[(1,2),[3],4]", "*", 8, 0, 3, 2, "[(2,1),[3],4]");
        DUE.over("[(1,2),[3,4],[],{a:1}]", "*", 9, 0, 4, 3, "[(1,2),[4,3],[],{a:1}]");
        DUE.over("[3,{},(1,1),[],#01,-5,{a:1},[0],(0,9),3]", "", 10, 0, 1, 1, "[-5,3,3,(0,9),(1,1),[],[0],{},{a:1},#01]");
        DUE.over("[{b:2,a:1}]", "*", 10, 0, 1, 0, "[{a:1,b:2}]");
        DUE.over("{a:1,b:2,ab:3}", "", 11, 0, 1, 1, "{a:3,b:1,ab:2}");
        DUE.over("{a:1}", "", 11, 0, 1, 1, "{a:1}");
        DUE.over("{}", "", 11, 0, 1, 1, "{}");
        DUE.over("[[2,1],[1]]", "*", 10, 0, 2, 3, "[[1,2],[1]]");
        DUE.over("[1,2]", "", 11, 0, 1, 0, "[1,2]");
        DUE.over("(1,1)", "", 8, 0, 1, 1, "(1,1)");
        DUE.over("[]", "", 9, 0, 1, 1, "[]");
        DUE.over("[]", "", 10, 0, 1, 1, "[]");
        NestedFoci turned = Due.with("{a:1,b:2,ab:4}", "");
        Due.path(turned, 1, "%");
        turned.over(1, 0, 0, 11, 0);
        for (int k = 0; k < 3; k++) {
            DUE.is("turned " + k, turned.look(1, 1, k, 1), new int[] {4, 1, 2}[k]);
            DUE.is("turned key " + k, turned.key(1, 0, 0, k), new int[] {1, 2, 29}[k]);
        }
        // ALIKE ones keep their order as a ROW is sorted: the first made is still the first
        NestedFoci x = new NestedFoci();
        Due.thing(x, 0, "[5,5]");
        Due.path(x, 0, "/0");
        x.take(1, 0, 0, 0);
        Due.path(x, 1, "");
        x.over(2, 0, 1, 10, 0);
        x.take(3, 2, 0, 0);
        DUE.is("sorted stays by like ones", x.shared(1, 3), 1);
        DUE.is("sorted is another THING", x.shared(0, 2), 2);
    }

    private static void given() {
        DUE.over("[1,2,3]", "/1", 7, 0, 1, 1, "[1,[1,2,3],3]");
        DUE.over("[1,2,3]", "", 7, 5, 1, 0, "0");
        NestedFoci x = Due.with("[1,(2,3)]", "/1");
        x.take(2, 0, 0, 0);
        int before = x.count(21);
        DUE.is("over by THE SAME THING", x.over(1, 0, 0, 7, 2), 1);
        DUE.is("makes nothing", x.count(21), before);
        DUE.is("and stays", x.shared(1, 0), 1);
        Due.thing(x, 3, "(2,3)");
        DUE.is("over by one that is ALIKE", x.over(1, 0, 0, 7, 3), 1);
        DUE.is("makes what is around", x.count(21), before + 4);
        DUE.is("and is another", x.shared(1, 0), 1);
        DUE.is("with what was given in it", x.shared(1, 3), 1);
        DUE.is("yet ALIKE", x.order(1, 0), 0);
    }

    private static void whatIsMade() {
        DUE.over("[[1,2],[3,(4,5)],6]", "%=4;", 0, 1, 1, 4, "[[1,2],[3,(5,5)],6]");
        DUE.over("[[1,2],[3,4],6]", "**", 0, 1, 4, 7, "[[2,3],[4,5],6]");
        DUE.over("[[1,2],[3,4],6]", "*<1>", 6, 0, 1, 2, "[[1,2],[3,4],[6]]");
        DUE.over("{a:(1,2),b:(3,4)}", "$b..1", 0, 6, 1, 3, "{a:(1,2),b:(3,10)}");
        DUE.over("[1,(2,2)]", "%", 4, 0, 3, 8, "[(1,0),((2,0),(2,0))]");
        NestedFoci x = Due.with("[[1,2],[3,4],6]", "/1");
        x.over(1, 0, 0, 9, 0);
        DUE.is("all else stays THE SAME THING", x.shared(1, 0), 4);
        DUE.is("what stays, from the other side", x.shared(0, 1), 4);
        Due.path(x, 1, "/5");
        x.over(2, 0, 1, 9, 0);
        DUE.is("without FOCI it is THE SAME THING", x.shared(2, 0), 1);
        DUE.is("yet the SHELF remembers", x.count(2), 1);
    }

    private static void sharedPlaces() {
        NestedFoci x = Due.with("[1,2]", "%");
        x.put(1, 1, 0, 0, 0);
        int before = x.count(21);
        DUE.is("over one that stands twice", x.over(2, 1, 0, 0, 1), 4);
        DUE.is("makes it anew for each place", x.count(21) - before, 7);
        Due.path(x, 1, "~");
        x.take(3, 2, 1, 0);
        x.take(4, 2, 1, 1);
        DUE.is("so these are two", x.shared(3, 4), 0);
        DUE.is("which are ALIKE", x.order(3, 4), 0);
        x.take(3, 1, 1, 0);
        x.take(4, 1, 1, 1);
        DUE.is("where they were one", x.shared(3, 4), 1);
        // one FOCUS that is put in place of each becomes one THING at both
        x.over(5, 1, 1, 7, 6);
        x.take(3, 5, 1, 0);
        DUE.is("the given one at each place", x.shared(5, 6), 2);
        DUE.is("the given one is a part", x.shared(6, 3), 1);
    }

    private static void overBad() {
        NestedFoci x = Due.with("[1]", "*");
        for (int bad : new int[] {-1, 12, Integer.MIN_VALUE, Integer.MAX_VALUE}) {
            DUE.is("over to " + bad, x.over(bad, 0, 0, 0, 0), NestedFoci.BAD);
            DUE.is("over from " + bad, x.over(0, bad, 0, 0, 0), NestedFoci.BAD);
            DUE.is("over how " + bad, x.over(0, 0, 0, bad, 0), NestedFoci.BAD);
            DUE.is("over how 7 by " + bad, x.over(0, 0, 0, 7, bad), NestedFoci.BAD);
            DUE.is("over how 5 by " + bad, x.over(0, 0, 0, 5, bad), NestedFoci.BAD);
        }
        for (int bad : new int[] {-1, 8, Integer.MIN_VALUE, Integer.MAX_VALUE}) {
            DUE.is("over path " + bad, x.over(0, 0, bad, 0, 0), NestedFoci.BAD);
        }
        DUE.is("over how 5 by 10", x.over(0, 0, 0, 5, 10), NestedFoci.BAD);
        DUE.is("nothing became", x.count(0), 1);
        DUE.is("over how 5 by 9", x.over(0, 0, 0, 5, 9), 1);
        DUE.is("over how 7 by 11", x.over(0, 0, 0, 7, 11), 1);
        for (int how = 8; how <= 11; how++) {
            DUE.is("n doesn't matter by " + how, x.over(0, 0, 0, how, Integer.MIN_VALUE), 1);
        }
        DUE.is("n doesn't matter by 6", x.over(0, 0, 0, 6, -1), 1);
    }

    private static void overFull() {
        NestedFoci x = Due.with("[1,1,1,1,1,1,1,1,1,1,1,1]", "%");
        x.put(0, 1, 0, 0, 0);
        x.put(0, 1, 0, 0, 0);
        x.put(0, 1, 0, 0, 0);
        int made = x.count(21);
        DUE.is("over FULL by NODES", x.over(1, 0, 0, 5, 1), NestedFoci.FULL);
        DUE.is("all of it is counted", x.count(21), made + 96 + 15);
        DUE.is("over FULL, two for each", x.over(1, 0, 0, 4, 1), NestedFoci.FULL);
        DUE.is("all of that too", x.count(21), made + 96 + 15 + 2 * 96 + 15);
        DUE.is("FULL by what is given counts what is around", x.over(1, 0, 0, 7, 0), NestedFoci.FULL);
        DUE.is("just that", x.count(21), made + 96 + 15 + 2 * 96 + 15 + 15);
        DUE.is("nothing became", x.count(1), 0);
        NestedFoci y = Due.with("[[[[[[[[[[[[1]]]]]]]]]]]]", "%");
        DUE.is("over FULL by HEIGHT", y.over(1, 0, 0, 6, 0), NestedFoci.FULL);
        DUE.is("counted", y.count(21), 13 + 13);
        Due.path(y, 1, "");
        DUE.is("over FULL by HEIGHT around", y.over(1, 0, 1, 5, 0), NestedFoci.FULL);
        DUE.is("over to HEIGHT 12", y.over(1, 0, 0, 0, 1), 1);
        NestedFoci z = Due.with("[1,1,1,1,1,1,1,1,1,1,1]", "*");
        Due.thing(z, 1, "[1,1,1,[1,1,1,1,1,1,1,1,1,1,1]]");
        Due.path(z, 1, "<1>");
        DUE.is("16 NODES for each of 11", z.over(2, 0, 0, 7, 1), 11);
        DUE.is("177 NODES", z.look(2, 7, 0, 2), 177);
        Due.thing(z, 3, "[1,1,1,1,1,1,1,1,1,1]");
        DUE.is("189 NODES", z.put(4, 1, 2, 3, 0), 189);
        DUE.is("201 NODES are FULL", z.put(5, 1, 4, 3, 0), NestedFoci.FULL);
        Due.thing(z, 3, "[1,1,1,1,1,1,1,1,1]");
        DUE.is("200 NODES are not", z.put(4, 1, 4, 3, 0), 200);
        DUE.is("over that leaves 200", z.over(5, 4, 1, 0, 0), 0);
        Due.path(z, 2, "/1/0");
        DUE.is("over to 201 is FULL", z.over(5, 4, 2, 6, 0), NestedFoci.FULL);
        DUE.is("over to 200 is not", z.over(5, 4, 2, 0, 5), 1);
    }

    private static void overMade() {
        NestedFoci x = DUE.spent(2990);
        Due.path(x, 0, "%");
        Due.path(x, 1, "/9");
        int remembered = x.count(3);
        DUE.is("over MADE", x.over(3, 0, 0, 0, 1), NestedFoci.MADE);
        DUE.is("those ahead are counted", x.count(21), 3000);
        DUE.is("nothing became", x.count(3), remembered);
        DUE.is("over MADE again", x.over(3, 0, 0, 0, 1), NestedFoci.MADE);
        DUE.is("MADE ahead of FULL", x.over(3, 0, 0, 4, 1), NestedFoci.MADE);
        DUE.is("BAD ahead of MADE", x.over(12, 0, 0, 0, 1), NestedFoci.BAD);
        DUE.is("over that makes nothing", x.over(3, 0, 1, 0, 1), 0);
        DUE.is("it became", x.count(3), remembered + 1);
        DUE.is("put MADE", x.put(3, 0, 3, 3, 0), NestedFoci.MADE);
        DUE.is("fit MADE", x.fit(0, 0, 3), NestedFoci.MADE);
        DUE.is("3000", x.count(21), 3000);
        NestedFoci y = DUE.spent(2998);
        Due.path(y, 0, "");
        DUE.is("over up to 3000", y.over(5, 4, 0, 4, 1), 1);
        DUE.is("made 3000", y.count(21), 3000);
        NestedFoci z = DUE.spent(2999);
        Due.path(z, 0, "");
        DUE.is("over by two when one is left", z.over(5, 4, 0, 4, 1), NestedFoci.MADE);
        DUE.is("made 3000 then", z.count(21), 3000);
        NestedFoci w = DUE.spent(2990);
        Due.path(w, 0, "%");
        DUE.is("MADE is told, not FULL", w.over(5, 0, 0, 4, 1), NestedFoci.MADE);
    }

    private static void put() {
        NestedFoci x = Due.with("[1]", "");
        Due.thing(x, 1, "{a:1,c:3,aa:4}");
        int before = x.count(21);
        DUE.is("put PAIR", x.put(2, 0, 0, 1, 99), 7);
        DUE.holds("put PAIR", x, 2, "([1],{a:1,c:3,aa:4})");
        DUE.is("put ROW", x.put(3, 1, 0, 1, -99), 7);
        DUE.holds("put ROW", x, 3, "[[1],{a:1,c:3,aa:4}]");
        DUE.is("put KEY b", x.put(4, 2, 1, 0, 1), 6);
        DUE.holds("put KEY b", x, 4, "{a:1,b:[1],c:3,aa:4}");
        DUE.is("put KEY a", x.put(5, 2, 1, 0, 0), 5);
        DUE.holds("put KEY a", x, 5, "{a:[1],c:3,aa:4}");
        DUE.is("put KEY z", x.put(6, 2, 4, 0, 25), 8);
        DUE.holds("put KEY z", x, 6, "{a:1,b:[1],c:3,z:[1],aa:4}");
        DUE.is("put makes one each", x.count(21) - before, 5 + 7 + 7 + 6 + 5 + 8);
        DUE.is("its parts are shared", x.shared(4, 0), 1);
        DUE.is("and the other's", x.shared(4, 1), 3);
        DUE.is("put into itself", x.put(0, 0, 0, 0, 0), 5);
        DUE.is("shared by both places", x.look(0, 0, 0, 1), 2);
        DUE.is("the map stays", x.look(1, 0, 0, 1), 3);
        DUE.is("remembers", x.count(0), 2);
    }

    private static void putTrouble() {
        NestedFoci x = Due.with("{a:1,b:2,c:3,d:4,e:5,f:6,g:7,h:8,i:9,j:10,k:11,l:12}", "");
        for (int bad : new int[] {-1, 12, Integer.MIN_VALUE, Integer.MAX_VALUE}) {
            DUE.is("put to " + bad, x.put(bad, 0, 0, 0, 0), NestedFoci.BAD);
            DUE.is("put a " + bad, x.put(0, 0, bad, 0, 0), NestedFoci.BAD);
            DUE.is("put b " + bad, x.put(0, 0, 0, bad, 0), NestedFoci.BAD);
            DUE.is("put what " + bad, x.put(0, bad, 0, 0, 0), NestedFoci.BAD);
        }
        DUE.is("put what 3", x.put(0, 3, 0, 0, 0), NestedFoci.BAD);
        DUE.is("put KEY -1", x.put(0, 2, 0, 0, -1), NestedFoci.BAD);
        DUE.is("put KEY 26", x.put(0, 2, 0, 0, 26), NestedFoci.BAD);
        DUE.is("BAD ahead of STATE", x.put(0, 2, 1, 0, 26), NestedFoci.BAD);
        DUE.is("put in no MAP", x.put(0, 2, 1, 0, 25), NestedFoci.STATE);
        DUE.is("put a 13th KEY", x.put(1, 2, 0, 2, 12), NestedFoci.FULL);
        DUE.is("put by one of 12", x.put(1, 2, 0, 2, 11), 13);
        DUE.is("nothing by FULL", x.count(1), 1);
        DUE.is("made one", x.count(21), 14);
        x.put(2, 0, 0, 0, 0);
        x.put(2, 0, 2, 2, 0);
        x.put(2, 0, 2, 2, 0);
        DUE.is("111 NODES", x.look(2, 0, 0, 2), 111);
        DUE.is("put FULL by NODES", x.put(3, 1, 2, 2, 0), NestedFoci.FULL);
        DUE.is("put FULL by NODES in a MAP", x.put(3, 2, 0, 2, 0), 13 - 1 + 111);
        DUE.is("put FULL by NODES in a MAP again", x.put(3, 2, 3, 2, 1), NestedFoci.FULL);
        NestedFoci y = Due.with("[[[[[[[[[[[[1]]]]]]]]]]]]", "");
        DUE.is("put FULL by HEIGHT", y.put(1, 0, 0, 1, 0), NestedFoci.FULL);
        DUE.is("put FULL counts none", y.count(21), 13);
        NestedFoci z = DUE.spent(3000);
        DUE.is("put STATE ahead of MADE", z.put(1, 2, 0, 0, 0), NestedFoci.STATE);
        DUE.is("put MADE ahead of FULL", z.put(1, 1, 0, 0, 0), NestedFoci.MADE);
        DUE.is("put MADE", z.put(1, 1, 4, 4, 0), NestedFoci.MADE);
    }

    private static void take() {
        NestedFoci x = Due.with("[(1,2),{a:3},4]", "*");
        DUE.is("take 1", x.take(1, 0, 0, 1), 2);
        DUE.holds("take 1", x, 1, "{a:3}");
        int made = x.count(21);
        DUE.is("take 0", x.take(2, 0, 0, 0), 3);
        DUE.is("what is taken is THE SAME THING", x.shared(2, 0), 1);
        DUE.is("take makes nothing", x.count(21), made);
        DUE.is("take 3", x.take(1, 0, 0, 3), NestedFoci.NONE);
        DUE.is("take -1", x.take(1, 0, 0, -1), NestedFoci.NONE);
        DUE.is("take MIN", x.take(1, 0, 0, Integer.MIN_VALUE), NestedFoci.NONE);
        DUE.is("take MAX", x.take(1, 0, 0, Integer.MAX_VALUE), NestedFoci.NONE);
        DUE.is("remembers one", x.count(1), 1);
        DUE.is("take into itself", x.take(0, 0, 0, 2), 1);
        DUE.is("take from there", x.take(0, 0, 0, 0), NestedFoci.NONE);
        for (int bad : new int[] {-1, 12, Integer.MIN_VALUE, Integer.MAX_VALUE}) {
            DUE.is("take to " + bad, x.take(bad, 0, 0, 0), NestedFoci.BAD);
            DUE.is("take from " + bad, x.take(0, bad, 0, 9), NestedFoci.BAD);
        }
        DUE.is("take path -1", x.take(0, 0, -1, 9), NestedFoci.BAD);
        DUE.is("take path 8", x.take(0, 0, 8, 9), NestedFoci.BAD);
    }

    private static void undo() {
        NestedFoci x = Due.with("[1]", "*");
        x.over(0, 0, 0, 0, 1);
        x.put(0, 0, 0, 0, 0);
        x.take(0, 0, 0, 9);
        DUE.is("remembers three", x.count(0), 3);
        DUE.is("undo put", x.undo(0), 2);
        DUE.holds("undo put", x, 0, "[2]");
        DUE.is("undo over", x.undo(0), 1);
        DUE.holds("undo over", x, 0, "[1]");
        x.over(1, 0, 0, 9, 0);
        DUE.is("undone is THE SAME THING", x.shared(1, 0), 1);
        DUE.is("undo thing", x.undo(0), 0);
        DUE.holds("undo thing", x, 0, "0");
        DUE.is("nothing left", x.undo(0), NestedFoci.STATE);
        DUE.is("the other shelf still", x.count(1), 1);
        for (int bad : new int[] {-1, 12, Integer.MIN_VALUE, Integer.MAX_VALUE}) {
            DUE.is("undo " + bad, x.undo(bad), NestedFoci.BAD);
        }
        x.thing(0);
        DUE.is("a FAULT isn't remembered", x.count(0), 0);
    }

    private static void remembersTen() {
        NestedFoci x = new NestedFoci();
        for (int i = 1; i <= 13; i++) {
            Due.thing(x, 4, "" + i);
            DUE.is("remembers at most ten", x.count(4), Math.min(10, i));
        }
        for (int i = 12; i >= 3; i--) {
            DUE.is("undone to " + i, x.undo(4), i - 3);
            DUE.is("worth " + i, x.look(4, 0, 0, 1), i);
        }
        DUE.is("no more", x.undo(4), NestedFoci.STATE);
        DUE.is("the last stays", x.look(4, 0, 0, 1), 3);
        Due.thing(x, 4, "77");
        DUE.is("remembers anew", x.undo(4), 0);
        DUE.is("worth then", x.look(4, 0, 0, 1), 3);
    }

    private static void fit() {
        DUE.fit("(1,2)", ".0", "5", 7, 1);
        DUE.fit("(1,2)", "", "5", 7, 0);
        DUE.fit("[1,2,3]", "*", "[4,5]", 7, 1);
        DUE.fit("[1,2,3]", "%", "[4,5]", 0, 1 + 4);
        DUE.fit("[1,2,3]", "*=2;", "9", 6, 1);
        DUE.fit("[1,2,3]", "/7", "9", 7, 0);
        DUE.fit("5", "%", "(1,2)", 0, 1);
        DUE.fit("5", "%", "[]", 6, 0);
        DUE.fit("5", "%", "[1]", 1, 1);
        DUE.fit("[5,6]", "%", "[7,7]", 0, 1 + 3);
        DUE.fit("[1,1]", "=3;", "9", 7, 0);
        DUE.fit("[1,2]", "*<1>", "(1,2)", 6, 1);
        // the one FOCUS becomes a ROW whose own FOCUS then isn't what was put
        DUE.fit("[5]", "<2>", "[[1,2]]", 6, 0);
        DUE.fit("{a:1,b:1}", "$a.", "{a:1}", 7, 1);
        DUE.fit("#1#02", "#1", "7", 7, 1);
        DUE.fit("[3,[3]]", "%=3;", "3", 7, 2);
        DUE.fit("[3,4]", "*=3;", "[3]", 6, 1);
        DUE.fit("[1]", "%", "2", 7, 1);
        DUE.fit("[[1]]", "~~", "[2]", 7, 2);
        DUE.fit("[1]", "~%", "[3,4]", 0, 1 + 2);
        DUE.fit("(4,5)", "~<1>", "(4,5)", 6, 1);
        DUE.fit("0", "~", "0", 7, 0);
    }

    private static void fitBehindMore() {
        NestedFoci x = Due.with("[1,2,3,4]", "%");
        Due.thing(x, 1, "7");
        x.fold(0, 0, 0);
        DUE.is("fit looks at its own FOCI alone", x.fit(1, 0, 1), 7);
    }

    private static void fitTrouble() {
        NestedFoci x = Due.with("[1,1,1,1,1,1,1,1,1,1,1,1]", "%");
        for (int bad : new int[] {-1, 12, Integer.MIN_VALUE, Integer.MAX_VALUE}) {
            DUE.is("fit shelf " + bad, x.fit(bad, 0, 0), NestedFoci.BAD);
            DUE.is("fit w " + bad, x.fit(0, 0, bad), NestedFoci.BAD);
        }
        DUE.is("fit path -1", x.fit(0, -1, 0), NestedFoci.BAD);
        DUE.is("fit path 8", x.fit(0, 8, 0), NestedFoci.BAD);
        // the first OVER has 1 + 12 * 13 = 157 NODES and makes 1; the second 1 + 12 * 157 of them and makes 13
        DUE.is("FULL by the second OVER", x.fit(0, 0, 0), NestedFoci.FULL);
        DUE.is("both are counted", x.count(21), 13 + 1 + 13);
        x.put(1, 1, 0, 0, 0);
        DUE.is("FULL by the first OVER", x.fit(0, 0, 1), NestedFoci.FULL);
        DUE.is("one is counted", x.count(21), 13 + 1 + 13 + 1 + 1);
        NestedFoci y = DUE.spent(2999);
        Due.path(y, 0, "%");
        y.take(4, 0, 0, 0);
        DUE.is("MADE by the first OVER", y.fit(0, 0, 4), NestedFoci.MADE);
        DUE.is("counted up to 3000", y.count(21), 3000);
        NestedFoci z = DUE.spent(2999 - 3);
        Due.path(z, 0, "*");
        Due.path(z, 1, "%");
        Due.thing(z, 5, "[1,2]");
        DUE.is("a first OVER that makes one", z.fit(5, 0, 4), 7);
        DUE.is("made 3000", z.count(21), 3000);
        NestedFoci v = DUE.spent(2999 - 3);
        Due.path(v, 1, "%");
        Due.thing(v, 5, "[1,2]");
        DUE.is("MADE by the second OVER", v.fit(5, 1, 5), NestedFoci.MADE);
        DUE.is("counted up to 3000 then", v.count(21), 3000);
    }
}
