import java.nio.charset.StandardCharsets;
import java.util.ArrayDeque;
import java.util.ArrayList;
import java.util.Arrays;
import java.util.Collections;
import java.util.Comparator;
import java.util.Deque;
import java.util.HashMap;
import java.util.IdentityHashMap;
import java.util.List;
import java.util.Map;
import java.util.TreeMap;
import java.util.regex.Matcher;
import java.util.regex.Pattern;

/**
 * The document once more, by other means than the class: things are read by a machine with a stack, paths by a
 * regular expression, FOCI are rows of addresses, and OVER is done address by address.
 */
final class Model {
    private static final int NONE = -1, BAD = -2, STATE = -3, FULL = -4, MADE = -17;
    private static final long NO = Long.MIN_VALUE;
    private static final Pattern STEP = Pattern.compile(
        "\\.[01]|/[0-9]{1,2}|\\$[a-z]{1,3}\\.|#[0-9]|\\*|~|%|<[0-9]{1,2}>|=-?[0-9]{1,6};");
    private static final Pattern STEPS = Pattern.compile("(?:" + STEP.pattern() + "){0,8}", Pattern.DOTALL);

    /** A THING; keys is null but in a MAP. */
    static final class T {
        int kind;
        int word;
        List<String> keys;
        List<T> in = new ArrayList<>();

        T(int kind, int word) {
            this.kind = kind;
            this.word = word;
        }

        T anew(List<T> others) {
            T t = new T(kind, word);
            t.keys = keys;
            t.in = others;
            return t;
        }

        int nodes() {
            return 1 + in.stream().mapToInt(T::nodes).sum();
        }

        int height() {
            return in.isEmpty() ? 0 : 1 + in.stream().mapToInt(T::height).max().getAsInt();
        }

        @Override
        public String toString() {
            switch (kind) {
                case 0:
                    return "" + word;
                case 1:
                    return "(" + in.get(0) + "," + in.get(1) + ")";
                case 2:
                    return in.toString().replace(" ", "");
                case 3:
                    StringBuilder s = new StringBuilder();
                    for (int i = 0; i < in.size(); i++) {
                        s.append(i == 0 ? "" : ",").append(keys.get(i)).append(':').append(in.get(i));
                    }
                    return "{" + s + "}";
                default:
                    return "#" + word + in.get(0);
            }
        }
    }

    private String tape = "";
    final T[] shelves = new T[12];
    private final List<Deque<T>> old = new ArrayList<>();
    private final List<List<String>> paths = new ArrayList<>();
    private T[] keptShelves = null;
    private List<List<String>> keptPaths = null;
    private int made = 0;

    Model() {
        for (int i = 0; i < 12; i++) {
            shelves[i] = new T(0, 0);
            old.add(new ArrayDeque<>());
        }
        for (int i = 0; i < 8; i++) {
            paths.add(List.of());
        }
    }

    // ---- the order

    private static final Comparator<String> BY_KEY = Comparator.comparingInt(String::length).thenComparing(s -> s);

    static int cmp(T a, T b) {
        if (a.kind != b.kind) {
            return a.kind < b.kind ? -1 : 1;
        }
        if (a.word != b.word) {
            return a.word < b.word ? -1 : 1;
        }
        for (int i = 0; i < a.in.size() || i < b.in.size(); i++) {
            if (i >= a.in.size()) {
                return -1;
            }
            if (i >= b.in.size()) {
                return 1;
            }
            int way = a.kind == 3 ? BY_KEY.compare(a.keys.get(i), b.keys.get(i)) : 0;
            way = way == 0 ? cmp(a.in.get(i), b.in.get(i)) : way;
            if (way != 0) {
                return way < 0 ? -1 : 1;
            }
        }
        return 0;
    }

    // ---- FOCI as addresses

    private static T at(T t, List<Integer> address) {
        for (int i : address) {
            t = t.in.get(i);
        }
        return t;
    }

    private static List<List<Integer>> below(T t) {
        List<List<Integer>> all = new ArrayList<>();
        all.add(List.of());
        for (int i = 0; i < t.in.size(); i++) {
            for (List<Integer> rest : below(t.in.get(i))) {
                all.add(plus(List.of(i), rest));
            }
        }
        return all;
    }

    private static List<Integer> plus(List<Integer> a, List<Integer> b) {
        List<Integer> sum = new ArrayList<>(a);
        sum.addAll(b);
        return sum;
    }

    private static List<List<Integer>> step(T t, String step) {
        List<List<Integer>> got = new ArrayList<>();
        String rest = step.substring(1);
        switch (step.charAt(0)) {
            case '.':
                if (t.kind == 1) {
                    got.add(List.of(Integer.parseInt(rest)));
                }
                break;
            case '/':
                if (t.kind == 2 && Integer.parseInt(rest) < t.in.size()) {
                    got.add(List.of(Integer.parseInt(rest)));
                }
                break;
            case '$':
                int place = t.kind == 3 ? t.keys.indexOf(rest.substring(0, rest.length() - 1)) : -1;
                if (place >= 0) {
                    got.add(List.of(place));
                }
                break;
            case '#':
                if (t.kind == 4 && t.word == Integer.parseInt(rest)) {
                    got.add(List.of(0));
                }
                break;
            case '%':
                for (List<Integer> a : below(t)) {
                    if (at(t, a).kind == 0) {
                        got.add(a);
                    }
                }
                break;
            case '<':
                if (t.nodes() <= Integer.parseInt(rest.substring(0, rest.length() - 1))) {
                    got.add(List.of());
                }
                break;
            case '=':
                if (t.kind == 0 && t.word == Integer.parseInt(rest.substring(0, rest.length() - 1))) {
                    got.add(List.of());
                }
                break;
            default:
                if (step.equals("~") || t.kind == 2 || t.kind == 3) {
                    for (int i = 0; i < t.in.size(); i++) {
                        got.add(List.of(i));
                    }
                }
                break;
        }
        return got;
    }

    private static List<List<Integer>> addresses(T t, List<String> path) {
        List<List<Integer>> all = new ArrayList<>();
        all.add(List.of());
        for (String s : path) {
            List<List<Integer>> next = new ArrayList<>();
            for (List<Integer> a : all) {
                for (List<Integer> b : step(at(t, a), s)) {
                    next.add(plus(a, b));
                }
            }
            all = next;
        }
        return all;
    }

    private List<T> foci(int shelf, int path) {
        List<T> got = new ArrayList<>();
        for (List<Integer> a : addresses(shelves[shelf], paths.get(path))) {
            got.add(at(shelves[shelf], a));
        }
        return got;
    }

    // ---- reading

    private static final class Frame {
        final T t;
        final Map<String, T> map = new TreeMap<>(BY_KEY);
        String key = "";
        int keyAt = 0;

        Frame(int kind, int word) {
            t = new T(kind, word);
        }

        int size() {
            return t.kind == 3 ? map.size() : t.in.size();
        }

        void take(T part) {
            if (t.kind == 3) {
                map.put(key, part);
                key = "";
            } else {
                t.in.add(part);
            }
        }

        T done() {
            if (t.kind == 3) {
                t.keys = new ArrayList<>(map.keySet());
                t.in = new ArrayList<>(map.values());
            }
            return t;
        }
    }

    private enum S { THING, TAG, NUMBER, FIRST, KEY, BEHIND }

    private T read;

    /** The FAULT of a text, or -1: then read holds its THING. */
    int readThing(String text) {
        Deque<Frame> open = new ArrayDeque<>();
        S state = S.THING;
        String number = "";
        T done = null;
        for (int i = 0; i <= text.length(); i++) {
            char c = i < text.length() ? text.charAt(i) : 0xFFFF;
            boolean isDigit = c >= '0' && c <= '9';
            boolean isLetter = c >= 'a' && c <= 'z';
            if (state == S.NUMBER && !(isDigit && number.replace("-", "").length() < 6)) {
                if (number.equals("-")) {
                    return i;
                }
                done = new T(0, Integer.parseInt(number));
                state = S.BEHIND;
            }
            if (state == S.BEHIND && done != null) {
                // what is whole goes into what is around it, and TAGGED ones are whole then too
                T part = done;
                done = null;
                while (!open.isEmpty() && open.peek().t.kind == 4) {
                    open.peek().take(part);
                    part = open.pop().done();
                }
                if (open.isEmpty()) {
                    read = part;
                    return c == 0xFFFF ? -1 : i;
                }
                open.peek().take(part);
            }
            if (state == S.FIRST) {
                if (c == (open.peek().t.kind == 2 ? ']' : '}')) {
                    done = open.pop().done();
                    state = S.BEHIND;
                    continue;
                }
                state = open.peek().t.kind == 2 ? S.THING : S.KEY;
                open.peek().keyAt = i;
            }
            switch (state) {
                case THING:
                    if (open.size() > 12) {
                        return i;
                    }
                    if (isDigit || c == '-') {
                        number = "" + c;
                        state = S.NUMBER;
                    } else if (c == '(') {
                        open.push(new Frame(1, 0));
                    } else if (c == '[' || c == '{') {
                        open.push(new Frame(c == '[' ? 2 : 3, 0));
                        state = S.FIRST;
                    } else if (c == '#') {
                        state = S.TAG;
                    } else {
                        return i;
                    }
                    break;
                case TAG:
                    if (!isDigit) {
                        return i;
                    }
                    open.push(new Frame(4, c - '0'));
                    state = S.THING;
                    break;
                case NUMBER:
                    number += c;
                    break;
                case KEY:
                    Frame f = open.peek();
                    if (isLetter && f.key.length() < 3) {
                        f.key += c;
                    } else if (f.map.containsKey(f.key)) {
                        return f.keyAt;
                    } else if (f.key.isEmpty() || c != ':') {
                        return i;
                    } else {
                        state = S.THING;
                    }
                    break;
                default:
                    Frame g = open.peek();
                    int size = g.size();
                    boolean more = c == ',' && size < (g.t.kind == 1 ? 2 : 12);
                    boolean close = g.t.kind == 1 ? c == ')' && size == 2 : c == (g.t.kind == 2 ? ']' : '}');
                    if (close) {
                        done = open.pop().done();
                    } else if (more) {
                        state = g.t.kind == 3 ? S.KEY : S.THING;
                        g.keyAt = i + 1;
                    } else {
                        return i;
                    }
                    break;
            }
        }
        return text.length();
    }

    static int pathFault(String text) {
        if (STEPS.matcher(text).matches()) {
            return -1;
        }
        int viable = 0;
        for (int i = 1; i <= text.length(); i++) {
            Matcher m = STEPS.matcher(text.substring(0, i));
            if (m.matches() || m.hitEnd()) {
                viable = i;
            } else {
                break;
            }
        }
        return viable;
    }

    // ---- calls

    private static boolean isShelf(int s) {
        return s >= 0 && s <= 11;
    }

    private static boolean isPath(int p) {
        return p >= 0 && p <= 7;
    }

    private static boolean tooMuch(T t) {
        return t.height() > 12 || t.nodes() > 200 || t.in.size() > 12;
    }

    private void become(int shelf, T t) {
        old.get(shelf).addLast(shelves[shelf]);
        if (old.get(shelf).size() > 10) {
            old.get(shelf).removeFirst();
        }
        shelves[shelf] = t;
    }

    int feed(int n, int word) {
        if (n < 1 || n > 4) {
            return BAD;
        }
        if (tape.length() + n > 100) {
            return FULL;
        }
        byte[] b = {(byte) word, (byte) (word >> 8), (byte) (word >> 16), (byte) (word >> 24)};
        tape += new String(b, 0, n, StandardCharsets.ISO_8859_1);
        return tape.length();
    }

    int thing(int shelf) {
        if (!isShelf(shelf)) {
            return BAD;
        }
        int fault = readThing(tape);
        tape = "";
        if (fault >= 0) {
            return -100 - fault;
        }
        if (made + read.nodes() > 3000) {
            return MADE;
        }
        made += read.nodes();
        become(shelf, read);
        return read.nodes();
    }

    int path(int path) {
        if (!isPath(path)) {
            return BAD;
        }
        String text = tape;
        tape = "";
        int fault = pathFault(text);
        if (fault >= 0) {
            return -100 - fault;
        }
        List<String> steps = new ArrayList<>();
        Matcher m = STEP.matcher(text);
        while (m.find()) {
            steps.add(m.group());
        }
        paths.set(path, steps);
        return steps.size();
    }

    int join(int path, int other) {
        if (!isPath(path) || !isPath(other)) {
            return BAD;
        }
        List<String> sum = new ArrayList<>(paths.get(path));
        sum.addAll(paths.get(other));
        if (sum.size() > 8) {
            return FULL;
        }
        paths.set(path, sum);
        return sum.size();
    }

    private int anew;

    private T becomes(T t, int number, int how, int n, T given) {
        List<T> in = new ArrayList<>(t.in);
        switch (how) {
            case 0:
            case 1:
            case 2:
            case 3:
                if (t.kind != 0) {
                    return t;
                }
                anew++;
                int[] worths = {t.word + n, t.word * n, n - t.word, t.word + number};
                return new T(0, worths[how]);
            case 4:
                anew += 2;
                return new T(1, 0).anew(List.of(t, new T(0, n)));
            case 5:
                anew++;
                return new T(4, n).anew(List.of(t));
            case 6:
                anew++;
                return new T(2, 0).anew(List.of(t));
            case 7:
                return given;
            case 8:
            case 9:
                if (t.kind != how - 7) {
                    return t;
                }
                Collections.reverse(in);
                break;
            case 10:
                if (t.kind != 2) {
                    return t;
                }
                in.sort(Model::cmp);
                break;
            default:
                if (t.kind != 3) {
                    return t;
                }
                Collections.rotate(in, 1);
                break;
        }
        anew++;
        return t.anew(in);
    }

    private T rebuilt(T t, List<Integer> here, Map<List<Integer>, T> anewAt) {
        if (anewAt.containsKey(here)) {
            return anewAt.get(here);
        }
        List<T> in = new ArrayList<>();
        boolean same = true;
        for (int i = 0; i < t.in.size(); i++) {
            in.add(rebuilt(t.in.get(i), plus(here, List.of(i)), anewAt));
            same &= in.get(i) == t.in.get(i);
        }
        if (same) {
            return t;
        }
        anew++;
        return t.anew(in);
    }

    private int fociOfOver;

    private T overOf(T from, int path, int how, int n, T given) {
        anew = 0;
        Map<List<Integer>, T> anewAt = new HashMap<>();
        List<List<Integer>> all = addresses(from, paths.get(path));
        for (int i = 0; i < all.size(); i++) {
            anewAt.put(all.get(i), becomes(at(from, all.get(i)), i, how, n, given));
        }
        fociOfOver = all.size();
        return rebuilt(from, List.of(), anewAt);
    }

    /** MADE, FULL or 0, all counted. */
    private int counted(T came) {
        made += anew;
        if (made > 3000) {
            made = 3000;
            return MADE;
        }
        return tooMuch(came) ? FULL : 0;
    }

    int over(int shelf, int from, int path, int how, int n) {
        boolean bad = how < 0 || how > 11 || how == 5 && (n < 0 || n > 9) || how == 7 && !isShelf(n);
        if (!isShelf(shelf) || !isShelf(from) || !isPath(path) || bad) {
            return BAD;
        }
        T came = overOf(shelves[from], path, how, n, how == 7 ? shelves[n] : null);
        int trouble = counted(came);
        if (trouble != 0) {
            return trouble;
        }
        become(shelf, came);
        return fociOfOver;
    }

    int put(int shelf, int what, int a, int b, int n) {
        if (!isShelf(shelf) || !isShelf(a) || !isShelf(b) || what < 0 || what > 2 || what == 2 && (n < 0 || n > 25)) {
            return BAD;
        }
        T t;
        if (what == 2) {
            if (shelves[a].kind != 3) {
                return STATE;
            }
            Map<String, T> map = new TreeMap<>(BY_KEY);
            for (int i = 0; i < shelves[a].in.size(); i++) {
                map.put(shelves[a].keys.get(i), shelves[a].in.get(i));
            }
            map.put("" + (char) ('a' + n), shelves[b]);
            t = new T(3, 0);
            t.keys = new ArrayList<>(map.keySet());
            t.in = new ArrayList<>(map.values());
        } else {
            t = new T(what + 1, 0).anew(List.of(shelves[a], shelves[b]));
        }
        if (made == 3000) {
            return MADE;
        }
        if (tooMuch(t)) {
            return FULL;
        }
        made++;
        become(shelf, t);
        return t.nodes();
    }

    int take(int shelf, int from, int path, int k) {
        if (!isShelf(shelf) || !isShelf(from) || !isPath(path)) {
            return BAD;
        }
        List<T> all = foci(from, path);
        if (k < 0 || k >= all.size()) {
            return NONE;
        }
        become(shelf, all.get(k));
        return all.get(k).nodes();
    }

    int undo(int shelf) {
        if (!isShelf(shelf)) {
            return BAD;
        }
        if (old.get(shelf).isEmpty()) {
            return STATE;
        }
        shelves[shelf] = old.get(shelf).removeLast();
        return old.get(shelf).size();
    }

    private T focus(int shelf, int path, int k) {
        if (!isShelf(shelf) || !isPath(path)) {
            return null;
        }
        List<T> all = foci(shelf, path);
        return k < 0 || k >= all.size() ? null : all.get(k);
    }

    long look(int shelf, int path, int k, int what) {
        T t = focus(shelf, path, k);
        if (t == null || what < 0 || what > 3) {
            return NO;
        }
        return new long[] {t.kind, t.kind == 0 || t.kind == 4 ? t.word : t.in.size(), t.nodes(), t.height()}[what];
    }

    int key(int shelf, int path, int k, int i) {
        T t = focus(shelf, path, k);
        if (t == null || t.kind != 3 || i < 0 || i >= t.in.size()) {
            return NONE;
        }
        int value = 0;
        for (char c : t.keys.get(i).toCharArray()) {
            value = value * 27 + c - 96;
        }
        return value;
    }

    long fold(int shelf, int path, int code) {
        if (!isShelf(shelf) || !isPath(path) || code < 0 || code > 6) {
            return NO;
        }
        List<T> all = foci(shelf, path);
        if (all.isEmpty()) {
            return code == 2 || code == 3 || code == 5 ? NO : 0;
        }
        switch (code) {
            case 0:
                return all.size();
            case 1:
                return all.stream().mapToLong(t -> below(t).stream().map(a -> at(t, a)).filter(x -> x.kind == 0)
                    .mapToLong(x -> x.word).sum()).sum();
            case 2:
                T most = Collections.max(all, Model::cmp);
                return firstLike(all, most);
            case 3:
                return firstLike(all, Collections.min(all, Model::cmp));
            case 4:
                return all.stream().map(T::toString).distinct().count();
            case 5:
                return all.stream().mapToInt(T::height).max().getAsInt();
            default:
                return all.stream().mapToInt(T::nodes).sum();
        }
    }

    private static int firstLike(List<T> all, T t) {
        for (int i = 0; i < all.size(); i++) {
            if (cmp(all.get(i), t) == 0) {
                return i;
            }
        }
        return -1;
    }

    int best(int shelf, int path, int order, int n) {
        if (!isShelf(shelf) || !isPath(path) || order < 0 || order > 2) {
            return BAD;
        }
        List<T> all = foci(shelf, path);
        if (n < 0 || n >= all.size()) {
            return NONE;
        }
        Comparator<T> by = order == 0 ? Model::cmp
            : order == 1 ? Comparator.comparingInt(T::nodes).thenComparing(Model::cmp)
            : Comparator.comparingInt((T t) -> -t.height()).thenComparingInt(T::nodes);
        Integer[] places = new Integer[all.size()];
        Arrays.setAll(places, i -> i);
        Arrays.sort(places, (i, j) -> by.compare(all.get(i), all.get(j)));
        return places[n];
    }

    int order(int a, int b) {
        return isShelf(a) && isShelf(b) ? cmp(shelves[a], shelves[b]) : BAD;
    }

    int shared(int a, int b) {
        if (!isShelf(a) || !isShelf(b)) {
            return BAD;
        }
        Map<T, Boolean> others = new IdentityHashMap<>();
        for (List<Integer> address : below(shelves[b])) {
            others.put(at(shelves[b], address), true);
        }
        return sharedOf(shelves[a], others);
    }

    private static int sharedOf(T t, Map<T, Boolean> others) {
        return others.containsKey(t) ? 1 : t.in.stream().mapToInt(x -> sharedOf(x, others)).sum();
    }

    /** The places are those of whole addresses in the row of all, in which those of NODES stand. */
    private static void differences(T p, T q, T whole, List<Integer> here, List<Integer> places) {
        if (p.toString().equals(q.toString())) {
            return;
        }
        boolean alike = p.kind == q.kind && p.kind != 0 && p.word == q.word && p.in.size() == q.in.size()
            && (p.kind != 3 || p.keys.equals(q.keys));
        if (!alike) {
            places.add(below(whole).indexOf(here));
            return;
        }
        for (int i = 0; i < p.in.size(); i++) {
            differences(p.in.get(i), q.in.get(i), whole, plus(here, List.of(i)), places);
        }
    }

    int differ(int a, int b, int k) {
        if (!isShelf(a) || !isShelf(b)) {
            return BAD;
        }
        List<Integer> places = new ArrayList<>();
        differences(shelves[a], shelves[b], shelves[a], List.of(), places);
        return k == -1 ? places.size() : k >= 0 && k < places.size() ? places.get(k) : NONE;
    }

    int fit(int shelf, int path, int w) {
        if (!isShelf(shelf) || !isPath(path) || !isShelf(w)) {
            return BAD;
        }
        T once = overOf(shelves[shelf], path, 7, 0, shelves[w]);
        int ahead = fociOfOver;
        int trouble = counted(once);
        if (trouble != 0) {
            return trouble;
        }
        T twice = overOf(once, path, 7, 0, shelves[w]);
        trouble = counted(twice);
        if (trouble != 0) {
            return trouble;
        }
        List<List<Integer>> all = addresses(once, paths.get(path));
        int laws = all.size() == ahead ? 1 : 0;
        laws += all.stream().allMatch(x -> cmp(at(once, x), shelves[w]) == 0) ? 2 : 0;
        return laws + (cmp(once, twice) == 0 ? 4 : 0);
    }

    private int allNodes() {
        return Arrays.stream(shelves).mapToInt(T::nodes).sum();
    }

    int image() {
        keptShelves = shelves.clone();
        keptPaths = new ArrayList<>(paths);
        return allNodes();
    }

    int back() {
        if (keptShelves == null) {
            return STATE;
        }
        for (int i = 0; i < 12; i++) {
            shelves[i] = keptShelves[i];
            old.get(i).clear();
        }
        for (int i = 0; i < 8; i++) {
            paths.set(i, keptPaths.get(i));
        }
        return allNodes();
    }

    int count(int what) {
        if (what < 0 || what > 21) {
            return BAD;
        }
        return what < 12 ? old.get(what).size() : what < 20 ? paths.get(what - 12).size() : what == 20 ? tape.length() : made;
    }
}
