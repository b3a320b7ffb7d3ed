import java.util.ArrayList;
import java.util.List;

/** A call that may answer BAD, and the least and the greatest that each of its numbers may be. */
final class Calls {
    private static final int MIN = Integer.MIN_VALUE;
    private static final int MAX = Integer.MAX_VALUE;

    interface Asked {
        long of(NestedFoci x, int[] a);
    }

    final String name;
    private final Asked asked;
    private final int[] ends;

    /** The ends: the least and the greatest of the first number, then of the second, and so on. */
    private Calls(String name, Asked asked, int... ends) {
        this.name = name;
        this.asked = asked;
        this.ends = ends;
    }

    /** All calls that a name begins: "over" are those by a how of their own, too. */
    static List<Calls> of(String name) {
        List<Calls> some = new ArrayList<>();
        for (Calls c : all()) {
            if (c.name.startsWith(name)) {
                some.add(c);
            }
        }
        return some;
    }

    static List<Calls> all() {
        return List.of(
            new Calls("feed", (x, a) -> x.feed(a[0], a[1]), 1, 4, MIN, MAX),
            new Calls("thing", (x, a) -> x.thing(a[0]), 0, 11),
            new Calls("path", (x, a) -> x.path(a[0]), 0, 7),
            new Calls("join", (x, a) -> x.join(a[0], a[1]), 0, 7, 0, 7),
            new Calls("over", (x, a) -> x.over(a[0], a[1], a[2], a[3], 0), 0, 11, 0, 11, 0, 7, 0, 11),
            new Calls("over by 0", (x, a) -> x.over(a[0], a[1], a[2], 0, a[3]), 0, 11, 0, 11, 0, 7, MIN, MAX),
            new Calls("over by 3", (x, a) -> x.over(a[0], a[1], a[2], 3, a[3]), 0, 11, 0, 11, 0, 7, MIN, MAX),
            new Calls("over by 4", (x, a) -> x.over(a[0], a[1], a[2], 4, a[3]), 0, 11, 0, 11, 0, 7, MIN, MAX),
            new Calls("over by 5", (x, a) -> x.over(a[0], a[1], a[2], 5, a[3]), 0, 11, 0, 11, 0, 7, 0, 9),
            new Calls("over by 6", (x, a) -> x.over(a[0], a[1], a[2], 6, a[3]), 0, 11, 0, 11, 0, 7, MIN, MAX),
            new Calls("over by 7", (x, a) -> x.over(a[0], a[1], a[2], 7, a[3]), 0, 11, 0, 11, 0, 7, 0, 11),
            new Calls("over by 8", (x, a) -> x.over(a[0], a[1], a[2], 8, a[3]), 0, 11, 0, 11, 0, 7, MIN, MAX),
            new Calls("over by 11", (x, a) -> x.over(a[0], a[1], a[2], 11, a[3]), 0, 11, 0, 11, 0, 7, MIN, MAX),
            new Calls("put", (x, a) -> x.put(a[0], a[1], a[2], a[3], 0), 0, 11, 0, 2, 0, 11, 0, 11),
            new Calls("put by 0", (x, a) -> x.put(a[0], 0, a[1], a[2], a[3]), 0, 11, 0, 11, 0, 11, MIN, MAX),
            new Calls("put by 1", (x, a) -> x.put(a[0], 1, a[1], a[2], a[3]), 0, 11, 0, 11, 0, 11, MIN, MAX),
            new Calls("put by 2", (x, a) -> x.put(a[0], 2, a[1], a[2], a[3]), 0, 11, 0, 11, 0, 11, 0, 25),
            new Calls("take", (x, a) -> x.take(a[0], a[1], a[2], a[3]), 0, 11, 0, 11, 0, 7, MIN, MAX),
            new Calls("undo", (x, a) -> x.undo(a[0]), 0, 11),
            new Calls("best", (x, a) -> x.best(a[0], a[1], a[2], a[3]), 0, 11, 0, 7, 0, 2, MIN, MAX),
            new Calls("order", (x, a) -> x.order(a[0], a[1]), 0, 11, 0, 11),
            new Calls("shared", (x, a) -> x.shared(a[0], a[1]), 0, 11, 0, 11),
            new Calls("differ", (x, a) -> x.differ(a[0], a[1], a[2]), 0, 11, 0, 11, MIN, MAX),
            new Calls("fit", (x, a) -> x.fit(a[0], a[1], a[2]), 0, 11, 0, 7, 0, 11),
            new Calls("count", (x, a) -> x.count(a[0]), 0, 21));
    }

    /** Numbers that are as told but for one, which is just beside its ends or far from them. */
    List<int[]> bad() {
        List<int[]> rows = new ArrayList<>();
        for (int i = 0; i < ends.length / 2; i++) {
            int least = ends[2 * i];
            int greatest = ends[2 * i + 1];
            for (long bad : new long[] {least - 1L, greatest + 1L, MIN, MAX}) {
                if (bad >= MIN && bad <= MAX && (bad < least || bad > greatest)) {
                    // once beside the least of the others, once beside the greatest
                    rows.add(row(i, (int) bad, 0));
                    rows.add(row(i, (int) bad, 1));
                }
            }
        }
        return rows;
    }

    /** Numbers that are all as told, one of them at an end. */
    List<int[]> good() {
        List<int[]> rows = new ArrayList<>();
        for (int i = 0; i < ends.length / 2; i++) {
            for (int end = 0; end < 2; end++) {
                rows.add(row(i, ends[2 * i + end], 0));
                rows.add(row(i, ends[2 * i + end], 1));
            }
        }
        return rows;
    }

    private int[] row(int place, int number, int end) {
        int[] a = new int[ends.length / 2];
        for (int i = 0; i < a.length; i++) {
            a[i] = i == place ? number : ends[2 * i + end];
        }
        return a;
    }

    long ask(NestedFoci x, int[] a) {
        return asked.of(x, a);
    }

    /** BAD is answered to all that isn't as told, on a new object, and to nothing else. */
    static void areBad(Due due, String name) {
        for (Calls c : of(name)) {
            for (int[] a : c.bad()) {
                due.is(c.name + java.util.Arrays.toString(a), c.ask(new NestedFoci(), a), NestedFoci.BAD);
            }
            for (int[] a : c.good()) {
                boolean isBad = c.ask(new NestedFoci(), a) == NestedFoci.BAD;
                due.is(c.name + java.util.Arrays.toString(a) + " is as told", isBad ? 1 : 0, 0);
            }
        }
    }
}
