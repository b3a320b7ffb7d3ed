import com.sun.management.ThreadMXBean;
import java.lang.management.ManagementFactory;
import java.util.function.ObjIntConsumer;

/**
 * The dearest runs of 512 calls stay within the room that all calls share: 600,000 objects and arrays, 7.3 million
 * fields and elements. An object takes 16 bytes or more, a field or element 4 or more (but for some boolean ones): a
 * run that takes fewer bytes than 600,000 of the smallest objects would has neither too many.
 */
public final class RoomTest {
    private static final Due DUE = new Due();
    private static final long MOST_BYTES = 600_000L * 16;
    private static final int CALLS = 512;
    private static final ThreadMXBean ROOM = (ThreadMXBean) ManagementFactory.getThreadMXBean();
    private static final String[] PATHS = {"%", "*", "~~", "<99>"};
    private static final String ROW = "[9,8,7,6,5,4,3,2,1,0,[0],(1,2)]";
    private static final String MAP = "{l:1,k:2,j:3,i:4,h:5,g:6,f:7,e:8,d:9,c:0,b:1,a:2}";
    private static final String EMPTY_ROWS = "[[],[],[],[],[],[],[],[],[],[],[],[[],[],[],[],[],[],[],[],[],[],[],[]]]";

    public static void main(String[] args) {
        telling();
        changing();
        putting();
        asking();
        DUE.end();
    }

    /** A run of so many rounds, each of one call or more; what the test itself takes is in the sum too. */
    private static void fits(String name, int rounds, ObjIntConsumer<NestedFoci> round) {
        long before = ROOM.getCurrentThreadAllocatedBytes();
        NestedFoci x = Due.with(ROW, "");
        Due.thing(x, 1, MAP);
        for (int i = 0; i < PATHS.length; i++) {
            Due.path(x, i, PATHS[i]);
        }
        for (int i = 0; i < rounds; i++) {
            round.accept(x, i);
        }
        long bytes = ROOM.getCurrentThreadAllocatedBytes() - before;
        DUE.is(name + ": is measured", bytes > 0 ? 1 : 0, 1);
        DUE.is(name + ": takes too many bytes, " + bytes, bytes <= MOST_BYTES ? 1 : 0, 1);
    }

    private static void telling() {
        fits("THINGS", CALLS / (EMPTY_ROWS.length() / 4), (x, i) -> Due.thing(x, 0, EMPTY_ROWS));
        fits("FAULTS", CALLS / 2, (x, i) -> Due.thing(x, 0, "[[[["));
        fits("PATHS", CALLS / 3, (x, i) -> {
            Due.path(x, 0, "%%%%");
            x.join(0, 0);
        });
    }

    private static void changing() {
        for (int i = 0; i < 12 * PATHS.length; i++) {
            int how = i / PATHS.length;
            int path = i % PATHS.length;
            int n = how == 5 ? 3 : how == 7 ? 1 : 2;
            fits("OVER by " + how + " of " + PATHS[path], CALLS, (x, k) -> x.over(2, 0, path, how, n));
            fits("OVER by " + how + " of " + PATHS[path] + " on end", CALLS, (x, k) -> x.over(0, 0, path, how, n));
            fits("OVER by " + how + " of " + PATHS[path] + ", FULL", CALLS, (x, k) -> {
                x.put(0, 1, 0, 0, 0);
                x.over(2, 0, path, how, n);
            });
            fits("FIT of " + PATHS[path] + " behind OVER by " + how, CALLS / 2, (x, k) -> {
                x.over(k % 12, k % 2, path, how, n);
                x.fit(k % 11, path, 1);
            });
        }
    }

    private static void putting() {
        fits("PAIRS", CALLS, (x, i) -> x.put(i % 12, 0, (i + 1) % 12, i % 12, 0));
        fits("ROWS", CALLS, (x, i) -> x.put(i % 12, 1, (i + 1) % 12, i % 12, 0));
        fits("MAPS", CALLS, (x, i) -> x.put(1, 2, 1, 0, i % 26));
    }

    private static void asking() {
        fits("asking", CALLS, (x, i) -> {
            x.take(2 + i % 10, i % 2, i % 4, i % 12);
            x.undo(2 + i % 7);
            x.look(i % 12, i % 8, i % 12, i % 4);
            x.key(1, 4, 0, i % 12);
            x.fold(i % 2, i % 4, i % 7);
            x.best(i % 2, i % 4, i % 3, i % 12);
            x.order(0, i % 12);
            x.shared(0, i % 12);
            x.differ(i % 2, i % 12, i % 9 - 1);
            x.count(i % 22);
            x.image();
            x.back();
        });
    }
}
