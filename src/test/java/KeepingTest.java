/** Promises 18 to 20: image, back, count. */
public final class KeepingTest {
    private static final Due DUE = new Due();

    public static void main(String[] args) {
        imageAndBack();
        imageAgain();
        count();
        manyCalls();
        DUE.end();
    }

    private static void imageAndBack() {
        NestedFoci x = Due.with("[1,(2,3)]", "*.0");
        DUE.is("back without an image", x.back(), NestedFoci.STATE);
        DUE.is("STATE changes nothing", x.count(0), 1);
        x.put(11, 0, 0, 0, 0);
        DUE.is("image", x.image(), 10 + 5 + 11);
        DUE.is("image leaves what is remembered", x.count(0), 1);
        int made = x.count(21);
        x.undo(0);
        Due.thing(x, 11, "7");
        Due.thing(x, 5, "8");
        Due.path(x, 0, "%%%");
        Due.path(x, 7, "=3;");
        Due.feed(x, "[9]");
        DUE.is("back", x.back(), 26);
        DUE.is("the tape isn't kept", x.count(20), 3);
        DUE.is("what was made stays made", x.count(21), made + 2);
        for (int i = 0; i < 12; i++) {
            DUE.is("remembers none " + i, x.count(i), 0);
            DUE.is("undo " + i, x.undo(i), NestedFoci.STATE);
        }
        DUE.is("path 0 as then", x.count(12), 2);
        DUE.is("path 7 as then", x.count(19), 0);
        DUE.is("path 0 leads as then", x.look(0, 0, 0, 1), 2);
        DUE.is("THE SAME THING as then", x.shared(11, 0), 2);
        x.thing(0);
        DUE.is("the tape was [9]", x.look(0, 1, 0, 2), 2);
        DUE.is("back again", x.back(), 26);
        DUE.is("and again", x.back(), 26);
        DUE.holds("back again", x, 0, "[1,(2,3)]");
    }

    private static void imageAgain() {
        NestedFoci x = new NestedFoci();
        DUE.is("image of a new one", x.image(), 12);
        Due.thing(x, 3, "[1,2]");
        Due.path(x, 3, "*");
        DUE.is("image in place of the other", x.image(), 14);
        Due.thing(x, 3, "5");
        x.join(3, 3);
        DUE.is("back to the later", x.back(), 14);
        DUE.holds("back to the later", x, 3, "[1,2]");
        DUE.is("path of the later", x.count(15), 1);
        DUE.is("join behind back", x.join(3, 3), 2);
        DUE.is("back once more", x.back(), 14);
        DUE.is("the image isn't changed by a join", x.count(15), 1);
    }

    private static void count() {
        NestedFoci x = Due.with("[1,2]", "*");
        Due.path(x, 7, "%%");
        Due.thing(x, 11, "[1]");
        Due.thing(x, 11, "[2]");
        Due.feed(x, "abcde");
        int[] due = new int[22];
        due[0] = 1;
        due[11] = 2;
        due[12] = 1;
        due[19] = 2;
        due[20] = 5;
        due[21] = 7;
        for (int i = 0; i < 22; i++) {
            DUE.is("count " + i, x.count(i), due[i]);
        }
        for (int bad : new int[] {-1, 22, Integer.MIN_VALUE, Integer.MAX_VALUE}) {
            DUE.is("count " + bad, x.count(bad), NestedFoci.BAD);
        }
    }

    /** Nothing is promised behind 512 calls, but that no call throws: numbers of all kinds, many calls. */
    private static void manyCalls() {
        java.util.Random random = new java.util.Random(5);
        int[] some = {0, 1, 2, 3, 5, 7, 8, 11, 12, -1, 25, 26, 200, 1 << 30, Integer.MIN_VALUE, Integer.MAX_VALUE};
        String signs = "()[]{},:#-0123ab.$/*~%<>=;\u0000\u00ff";
        NestedFoci x = new NestedFoci();
        for (int i = 0; i < 400000; i++) {
            int[] a = new int[5];
            for (int j = 0; j < 5; j++) {
                a[j] = some[random.nextInt(random.nextInt(4) == 0 ? some.length : 6)];
            }
            int word = signs.charAt(random.nextInt(signs.length())) | signs.charAt(random.nextInt(signs.length())) << 8;
            x.feed(random.nextInt(4), word);
            manyCallsOf(x, random.nextInt(19), a);
            if (i % 5000 == 0) {
                x = new NestedFoci();
            }
        }
        DUE.is("no call threw", 0, 0);
    }

    private static void manyCallsOf(NestedFoci x, int which, int[] a) {
        switch (which) {
            case 0 -> x.thing(a[0]);
            case 1 -> x.path(a[0]);
            case 2 -> x.join(a[0], a[1]);
            case 3, 4 -> x.over(a[0], a[1], a[2], a[3], a[4]);
            case 5 -> x.put(a[0], a[1], a[2], a[3], a[4]);
            case 6 -> x.take(a[0], a[1], a[2], a[3]);
            case 7 -> x.undo(a[0]);
            case 8 -> x.look(a[0], a[1], a[2], a[3]);
            case 9 -> x.key(a[0], a[1], a[2], a[3]);
            case 10 -> x.fold(a[0], a[1], a[2]);
            case 11 -> x.best(a[0], a[1], a[2], a[3]);
            case 12 -> x.order(a[0], a[1]);
            case 13 -> x.shared(a[0], a[1]);
            case 14 -> x.differ(a[0], a[1], a[2]);
            case 15 -> x.fit(a[0], a[1], a[2]);
            case 16 -> x.image();
            case 17 -> x.back();
            default -> x.count(a[0]);
        }
    }
}
