/** Promises 10 to 16: look, key, fold, best, order, shared, differ; and what each STEP leads to. */
public final class LookTest {
    private static final Due DUE = new Due();
    private static final int[] SHELF_LIKE = {-1, 12, Integer.MIN_VALUE, Integer.MAX_VALUE};
    private static final int[] PATH_LIKE = {-1, 8, Integer.MIN_VALUE, Integer.MAX_VALUE};

    public static void main(String[] args) {
        steps();
        look();
        key();
        folds();
        foldsBehindMore();
        foldTrouble();
        best();
        order();
        shared();
        differ();
        DUE.end();
    }

    private static void steps() {
        DUE.foci("(1,[2])", "", "(1,[2])");
        DUE.foci("(1,[2])", ".0", "1");
        DUE.foci("(1,[2])", ".1", "[2]");
        DUE.foci("[1,2]", ".0");
        DUE.foci("{a:1,b:2}", ".0");
        DUE.foci("#01", ".0");
        DUE.foci("[1,2,(3,4)]", "/0", "1");
        DUE.foci("[1,2,(3,4)]", "/2", "(3,4)");
        DUE.foci("[1,2,(3,4)]", "/3");
        DUE.foci("[1,2,(3,4)]", "/02", "(3,4)");
        DUE.foci("[0,1,2,3,4,5,6,7,8,9,10,11]", "/11", "11");
        DUE.foci("[]", "/0");
        DUE.foci("(1,2)", "/0");
        DUE.foci("{a:1}", "/0");
        DUE.foci("{a:1,b:2,ab:3,abc:4}", "$b.", "2");
        DUE.foci("{a:1,b:2,ab:3,abc:4}", "$ab.", "3");
        DUE.foci("{a:1,b:2,ab:3,abc:4}", "$abc.", "4");
        DUE.foci("{a:1,b:2,ab:3,abc:4}", "$c.");
        DUE.foci("{a:1,b:2,ab:3,abc:4}", "$ba.");
        DUE.foci("[1]", "$a.");
        DUE.foci("#3[1]", "#3", "[1]");
        DUE.foci("#3[1]", "#2");
        DUE.foci("#0#01", "#0", "#01");
        DUE.foci("[1]", "#0");
        DUE.foci("[1,[2]]", "*", "1", "[2]");
        DUE.foci("{b:1,aa:2,a:3}", "*", "3", "1", "2");
        DUE.foci("(1,2)", "*");
        DUE.foci("#11", "*");
        DUE.foci("5", "*");
        DUE.foci("{}", "*");
        DUE.foci("(1,[2])", "~", "1", "[2]");
        DUE.foci("[1,[2]]", "~", "1", "[2]");
        DUE.foci("{b:1,a:2}", "~", "2", "1");
        DUE.foci("#1(2,3)", "~", "(2,3)");
        DUE.foci("5", "~");
        DUE.foci("[]", "~");
        DUE.foci("5", "%", "5");
        DUE.foci("[(1,2),{b:3,a:#1[4]},[],{},(5,(6,7))]", "%", "1", "2", "4", "3", "5", "6", "7");
        DUE.foci("[1,[2],(3,4)]", "*<1>", "1");
        DUE.foci("[1,[2],(3,4)]", "*<2>", "1", "[2]");
        DUE.foci("[1,[2],(3,4)]", "*<3>", "1", "[2]", "(3,4)");
        DUE.foci("1", "<0>");
        DUE.foci("[1,-2,2,[2]]", "*=2;", "2");
        DUE.foci("[1,-2,2,[2]]", "%=2;", "2", "2");
        DUE.foci("[1,-2,2,[2]]", "*=-2;", "-2");
        DUE.foci("[0,1]", "*=-0;", "0");
        DUE.foci("[(1,2),(3,4),[5]]", "*.1", "2", "4");
        DUE.foci("[{a:(1,2)},{b:3},{a:4}]", "*$a.", "(1,2)", "4");
        DUE.foci("[{a:(1,2)},{b:3},{a:4}]", "*$a.~", "1", "2");
        DUE.foci("[[1,[2]],[3]]", "~~%", "1", "2", "3");
        DUE.foci("[1,2]", "%%%", "1", "2");
        DUE.foci("[1,2]", "%~");
        DUE.foci("[[1,2],[3],[4,5,6]]", "*<3>*", "1", "2", "3");
    }

    private static void look() {
        NestedFoci x = Due.with("[-7,(1,2),[1,[2]],{a:1,b:2,c:3},#4(5,#1[])]", "*");
        int[][] due = {{0, -7, 1, 0}, {1, 2, 3, 1}, {2, 2, 4, 2}, {3, 3, 4, 1}, {4, 4, 5, 3}};
        for (int k = 0; k < 5; k++) {
            for (int what = 0; what < 4; what++) {
                DUE.is("look " + k + " " + what, x.look(0, 0, k, what), due[k][what]);
            }
            for (int what : new int[] {-1, 4, Integer.MIN_VALUE, Integer.MAX_VALUE}) {
                DUE.is("look " + k + " " + what, x.look(0, 0, k, what), NestedFoci.NO);
            }
        }
        for (int k : new int[] {-1, 5, Integer.MIN_VALUE, Integer.MAX_VALUE}) {
            DUE.is("look " + k, x.look(0, 0, k, 0), NestedFoci.NO);
        }
        for (int bad : SHELF_LIKE) {
            DUE.is("look shelf " + bad, x.look(bad, 0, 0, 0), NestedFoci.NO);
        }
        for (int bad : PATH_LIKE) {
            DUE.is("look path " + bad, x.look(0, bad, 0, 0), NestedFoci.NO);
        }
        Due.thing(x, 1, "{}");
        DUE.is("an empty one's HEIGHT", x.look(1, 1, 0, 3), 0);
        DUE.is("an empty one's NODES", x.look(1, 1, 0, 2), 1);
        DUE.is("an empty one's size", x.look(1, 1, 0, 1), 0);
        Due.thing(x, 1, "[[]]");
        DUE.is("HEIGHT around an empty one", x.look(1, 1, 0, 3), 1);
    }

    private static void key() {
        NestedFoci x = Due.with("[{zz:1,a:2,zzz:3,b:4,aa:5,ab:6,z:7},[1],{},#1{a:1}]", "*");
        int[] due = {1, 2, 26, 28, 29, 26 * 27 + 26, (26 * 27 + 26) * 27 + 26};
        for (int i = 0; i < due.length; i++) {
            DUE.is("key " + i, x.key(0, 0, 0, i), due[i]);
        }
        for (int i : new int[] {-1, 7, Integer.MIN_VALUE, Integer.MAX_VALUE}) {
            DUE.is("key " + i, x.key(0, 0, 0, i), NestedFoci.NONE);
        }
        for (int k : new int[] {-1, 1, 2, 3, 4, Integer.MIN_VALUE, Integer.MAX_VALUE}) {
            DUE.is("key of " + k, x.key(0, 0, k, 0), NestedFoci.NONE);
        }
        for (int bad : SHELF_LIKE) {
            DUE.is("key shelf " + bad, x.key(bad, 0, 0, 0), NestedFoci.NONE);
        }
        for (int bad : PATH_LIKE) {
            DUE.is("key path " + bad, x.key(0, bad, 0, 0), NestedFoci.NONE);
        }
    }

    private static void folds() {
        long no = NestedFoci.NO;
        DUE.folds("[3,1,(2,2),1,(2,2),3]", "*", 6, 16, 2, 1, 3, 1, 10);
        DUE.folds("[3,1,(2,2),1,(2,2),3]", "%", 8, 16, 0, 1, 3, 0, 8);
        DUE.folds("[3,1,(2,2),1,(2,2),3]", "", 1, 16, 0, 0, 1, 2, 11);
        DUE.folds("[]", "*", 0, 0, no, no, 0, no, 0);
        DUE.folds("[]", "", 1, 0, 0, 0, 1, 0, 1);
        DUE.folds("[[1],[[2]],[],{a:[[[7]]]}]", "*", 4, 10, 3, 2, 4, 4, 2 + 3 + 1 + 5);
        DUE.folds("[-5,-5,-6,-6]", "*", 4, -22, 0, 2, 2, 0, 4);
        // the sum is a long: what wraps in a NUMBER doesn't in a FOLD
        NestedFoci x = Due.with("[0,0,0]", "*");
        x.over(0, 0, 0, 2, Integer.MAX_VALUE);
        DUE.is("a sum beyond int", x.fold(0, 0, 1), 3L * Integer.MAX_VALUE);
        x.over(0, 0, 0, 0, 1);
        DUE.is("a sum below int", x.fold(0, 0, 1), 3L * Integer.MIN_VALUE);
    }

    /** What an earlier look found is gone. */
    private static void foldsBehindMore() {
        foldsBehind("[1,-9,99,-99,(7,[8])]");
        foldsBehind("[1,99,-9,(7,[8])]");
    }

    private static void foldsBehind(String more) {
        NestedFoci x = Due.with(more, "*");
        Due.thing(x, 1, "[4]");
        long[] due = {1, 4, 0, 0, 1, 0, 1};
        for (int code = 0; code < due.length; code++) {
            x.fold(0, 0, 0);
            DUE.is("fold " + code + " behind " + more, x.fold(1, 0, code), due[code]);
        }
        x.fold(0, 0, 0);
        DUE.is("best behind more", x.best(1, 0, 0, 1), NestedFoci.NONE);
        x.fold(0, 0, 0);
        DUE.is("look behind more", x.look(1, 0, 1, 0), NestedFoci.NO);
        x.differ(0, 1, -1);
        DUE.is("differ behind more", x.differ(1, 1, 0), NestedFoci.NONE);
    }

    private static void foldTrouble() {
        NestedFoci x = Due.with("[1,2]", "*");
        for (int code : new int[] {-1, 7, Integer.MIN_VALUE, Integer.MAX_VALUE}) {
            DUE.is("fold code " + code, x.fold(0, 0, code), NestedFoci.NO);
        }
        for (int bad : SHELF_LIKE) {
            DUE.is("fold shelf " + bad, x.fold(bad, 0, 0), NestedFoci.NO);
        }
        for (int bad : PATH_LIKE) {
            DUE.is("fold path " + bad, x.fold(0, bad, 0), NestedFoci.NO);
        }
    }

    private static void best() {
        String some = "[[1,2],7,#1[],(1,2),3,[[]],7,{a:1,b:2},[1,1]]";
        DUE.best(some, 0, 4, 1, 6, 3, 8, 0, 5, 7, 2);
        DUE.best(some, 1, 4, 1, 6, 5, 2, 3, 8, 0, 7);
        DUE.best(some, 2, 2, 5, 0, 3, 7, 8, 1, 4, 6);
        DUE.best("[[[1]],[[],1,1],5]", 2, 0, 1, 2);
        DUE.best("[[[[]]],[9,9,9,9],[[1]],[]]", 2, 0, 2, 1, 3);
        DUE.best("[]", 0);
        DUE.best("[]", 1);
        DUE.best("[]", 2);
        NestedFoci x = Due.with("[1,2]", "*");
        for (int order : new int[] {-1, 3, Integer.MIN_VALUE, Integer.MAX_VALUE}) {
            DUE.is("best by " + order, x.best(0, 0, order, 0), NestedFoci.BAD);
            DUE.is("best by " + order + ", BAD ahead of NONE", x.best(0, 0, order, -1), NestedFoci.BAD);
        }
        for (int bad : SHELF_LIKE) {
            DUE.is("best shelf " + bad, x.best(bad, 0, 0, 0), NestedFoci.BAD);
        }
        for (int bad : PATH_LIKE) {
            DUE.is("best path " + bad, x.best(0, bad, 0, 0), NestedFoci.BAD);
        }
        DUE.is("best MIN", x.best(0, 0, 0, Integer.MIN_VALUE), NestedFoci.NONE);
        DUE.is("best MAX", x.best(0, 0, 0, Integer.MAX_VALUE), NestedFoci.NONE);
    }

    private static void order() {
        String[] inOrder = {"-999999", "-1", "0", "5", "999999", "(0,[])", "(1,0)", "(1,1)", "((0,0),0)", "[]", "[0]",
            "[0,0]", "[1]", "[1,0]", "[(0,0)]", "[[]]", "{}", "{a:0}", "{a:0,b:0}", "{a:0,aa:0}", "{a:1}", "{a:1,b:0}", "{b:0}",
            "{z:9}", "{aa:0}", "{ab:0}", "{ba:0}", "{aaa:0}", "#00", "#0(1,1)", "#10", "#9-5"};
        for (int i = 0; i < inOrder.length; i++) {
            NestedFoci x = new NestedFoci();
            Due.thing(x, 2, inOrder[i]);
            for (int j = 0; j < inOrder.length; j++) {
                Due.thing(x, 3, inOrder[j]);
                DUE.is("order " + inOrder[i] + " " + inOrder[j], x.order(2, 3), Integer.compare(i, j));
            }
        }
        NestedFoci x = new NestedFoci();
        Due.path(x, 0, "");
        x.over(0, 0, 0, 2, Integer.MIN_VALUE);
        x.over(1, 1, 0, 2, Integer.MAX_VALUE);
        DUE.is("order of the least and the greatest", x.order(0, 1), -1);
        DUE.is("order of the greatest and the least", x.order(1, 0), 1);
        for (int bad : SHELF_LIKE) {
            DUE.is("order a " + bad, x.order(bad, 0), NestedFoci.BAD);
            DUE.is("order b " + bad, x.order(0, bad), NestedFoci.BAD);
        }
    }

    private static void shared() {
        NestedFoci x = Due.with("[1,(2,3),[4]]", "/1");
        DUE.is("shared with itself", x.shared(0, 0), 1);
        x.over(1, 0, 0, 6, 0);
        // of the first: 1, (2,3) and [4]; what is in these isn't counted any more
        DUE.is("shared behind over", x.shared(0, 1), 3);
        DUE.is("the other way", x.shared(1, 0), 3);
        x.take(2, 0, 0, 0);
        DUE.is("a part of it", x.shared(2, 0), 1);
        DUE.is("it of a part", x.shared(0, 2), 1);
        x.put(3, 1, 2, 2, 0);
        DUE.is("twice there", x.shared(3, 0), 2);
        DUE.is("once in the other", x.shared(0, 3), 1);
        Due.thing(x, 4, "[1,(2,3),[4]]");
        DUE.is("ALIKE isn't THE SAME", x.shared(4, 0), 0);
        Due.path(x, 1, "~");
        x.over(5, 0, 1, 5, 2);
        DUE.is("each within a tag", x.shared(5, 0), 3);
        x.image();
        x.back();
        DUE.is("still THE SAME behind back", x.shared(5, 0), 3);
        for (int bad : SHELF_LIKE) {
            DUE.is("shared a " + bad, x.shared(bad, 0), NestedFoci.BAD);
            DUE.is("shared b " + bad, x.shared(0, bad), NestedFoci.BAD);
        }
    }

    private static void differ() {
        DUE.differ("1", "1");
        DUE.differ("[1,(2,3)]", "[1,(2,3)]");
        DUE.differ("1", "2", 0);
        DUE.differ("(1,2)", "[1,2]", 0);
        DUE.differ("(1,2)", "(3,4)", 1, 2);
        DUE.differ("((1,2),(3,4))", "((1,0),(0,4))", 3, 5);
        DUE.differ("[1,[2,3],4]", "[1,[2,0],0]", 4, 5);
        DUE.differ("[1,[2,3],4]", "[1,[2],0]", 2, 5);
        DUE.differ("[1,2]", "[1,2,3]", 0);
        DUE.differ("[]", "[0]", 0);
        DUE.differ("[]", "{}", 0);
        DUE.differ("{a:1,b:2}", "{b:0,a:1}", 2);
        DUE.differ("{b:1,aa:2,a:(3,4)}", "{b:0,aa:0,a:(3,0)}", 3, 4, 5);
        DUE.differ("{a:1,b:2}", "{a:1,c:2}", 0);
        DUE.differ("{a:1,b:2}", "{a:1}", 0);
        DUE.differ("#1(2,3)", "#1(2,4)", 3);
        DUE.differ("#1(2,3)", "#2(2,3)", 0);
        DUE.differ("[#1(2,3),7]", "[#2(2,3),8]", 1, 5);
        DUE.differ("[(1,1),(1,1),(1,1)]", "[(1,2),7,(2,2)]", 3, 4, 8, 9);
        NestedFoci x = Due.with("[1,2,3]", "");
        x.put(1, 1, 0, 0, 0);
        Due.path(x, 1, "%");
        x.over(2, 1, 1, 0, 1);
        DUE.is("a NODE that stands twice counts twice", x.differ(1, 2, -1), 6);
        DUE.is("the last of these", x.differ(1, 2, 5), 8);
        for (int bad : SHELF_LIKE) {
            DUE.is("differ a " + bad, x.differ(bad, 0, -1), NestedFoci.BAD);
            DUE.is("differ b " + bad, x.differ(0, bad, 5), NestedFoci.BAD);
        }
    }
}
