import java.util.ArrayList;
import java.util.List;
import java.util.function.Supplier;
import java.util.function.ToLongFunction;

/** Asks an object about all it has, so that a refused call that changed something is found out. */
final class Probe {
    private final Supplier<NestedFoci> maker;
    private final List<Long> answers = new ArrayList<>();
    /** What has been made is taken off, so that it can be told apart from all else. */
    private final int made;

    /** The maker makes a like object at each call: none is asked more often than the document allows. */
    private Probe(Supplier<NestedFoci> maker) {
        this.maker = maker;
        made = maker.get().count(21);
        counts(maker.get());
        tape();
        folds(maker.get());
        ordered(maker.get());
        twos(maker.get());
        looks(maker.get());
        for (int shelf = 0; shelf < 12; shelf++) {
            remembered(shelf);
        }
        kept();
    }

    /** A call answers as is due and changes nothing, but for how many it has made. */
    static void unchanged(Due due, String call, Supplier<NestedFoci> maker, ToLongFunction<NestedFoci> refused,
            long answer, int made) {
        due.is(call, refused.applyAsLong(maker.get()), answer);
        Probe before = new Probe(maker);
        Probe behind = new Probe(() -> {
            NestedFoci x = maker.get();
            refused.applyAsLong(x);
            return x;
        });
        due.is(call + " has made", behind.made - before.made, made);
        due.is(call + " changes nothing", before.answers.equals(behind.answers) ? 1 : 0, 1);
    }

    private void counts(NestedFoci x) {
        for (int what = 0; what < 21; what++) {
            answers.add((long) x.count(what));
        }
        answers.add((long) x.count(21) - made);
    }

    private void tape() {
        NestedFoci x = maker.get();
        answers.add((long) x.thing(11));
        answers.add(x.look(11, 7, 0, 1));
        answers.add((long) x.undo(11));
        x = maker.get();
        answers.add((long) x.path(7));
        answers.add((long) x.count(19));
    }

    private void folds(NestedFoci x) {
        for (int shelf = 0; shelf < 12; shelf++) {
            for (int path = 0; path < 8; path++) {
                answers.add(x.fold(shelf, path, 0));
                answers.add(x.fold(shelf, path, 1));
                answers.add(x.fold(shelf, path, 6));
            }
        }
    }

    private void ordered(NestedFoci x) {
        for (int a = 0; a < 12; a++) {
            for (int b = 0; b < 12; b++) {
                answers.add((long) x.order(a, b));
            }
        }
    }

    private void twos(NestedFoci x) {
        for (int a = 0; a < 12; a++) {
            for (int b = 0; b < 12; b++) {
                answers.add((long) x.shared(a, b));
                answers.add((long) x.differ(a, b, -1));
            }
        }
    }

    private void looks(NestedFoci x) {
        for (int shelf = 0; shelf < 12; shelf++) {
            for (int k = 0; k < 4; k++) {
                for (int what = 0; what < 4; what++) {
                    answers.add(x.look(shelf, 0, k, what));
                }
                answers.add((long) x.key(shelf, 0, k, 0));
            }
        }
    }

    private void remembered(int shelf) {
        NestedFoci x = maker.get();
        x.path(6);
        Due.path(x, 6, "%");
        Due.path(x, 7, "");
        for (int i = 0; i < 11; i++) {
            answers.add((long) x.undo(shelf));
            answers.add(x.fold(shelf, 6, 0));
            answers.add(x.fold(shelf, 6, 1));
            answers.add(x.look(shelf, 7, 0, 0));
            answers.add(x.fold(shelf, 7, 6));
        }
    }

    private void kept() {
        NestedFoci x = maker.get();
        answers.add((long) x.back());
        counts(x);
        for (int shelf = 0; shelf < 12; shelf++) {
            for (int path = 0; path < 8; path++) {
                answers.add(x.fold(shelf, path, 1));
            }
        }
    }
}
