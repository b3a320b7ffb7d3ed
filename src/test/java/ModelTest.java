import java.nio.charset.StandardCharsets;
import java.util.ArrayList;
import java.util.List;
import java.util.Random;

/** Runs of calls, the same at every start, on the class and on the Model: every answer is compared. */
public final class ModelTest {
    private static final Due DUE = new Due();
    private static final String STRAY = "()[]{},:#-0159abz.$/*~%<>=; \u0000\u00ff";

    private final Random random;
    private final NestedFoci real = new NestedFoci();
    private final Model model = new Model();
    private final List<String> log = new ArrayList<>();
    private int calls = 0;
    private boolean isWrong = false;

    private ModelTest(long seed) {
        random = new Random(seed);
    }

    public static void main(String[] args) {
        int runs = args.length > 0 ? Integer.parseInt(args[0]) : 1200;
        int[] answers = new int[64];
        for (int seed = 0; seed < runs; seed++) {
            ModelTest run = new ModelTest(seed);
            run.run(seed % 4);
            run.countAnswers(answers);
            if (run.isWrong) {
                break;
            }
        }
        // runs that never meet these answers would prove little
        String[] kinds = {"FULL", "MADE", "STATE", "NONE", "BAD", "FAULT", "NO"};
        for (int i = 0; i < kinds.length; i++) {
            DUE.is("answers " + kinds[i] + " met", answers[i] > 20 ? 1 : 0, 1);
        }
        DUE.end();
    }

    private void countAnswers(int[] answers) {
        for (String call : log) {
            String answer = call.substring(call.lastIndexOf(' ') + 1);
            long value = Long.parseLong(answer);
            int place = value == -4 ? 0 : value == -17 ? 1 : value == -3 ? 2 : value == -1 ? 3 : value == -2 ? 4
                : value <= -100 && value > -300 ? 5 : value == Long.MIN_VALUE ? 6 : 7;
            answers[place]++;
        }
    }

    /** Profiles: 0 all alike, 1 large things, 2 much reading, 3 odd numbers. */
    private void run(int profile) {
        if (profile == 1) {
            grow();
        }
        while (calls < 512 && !isWrong) {
            int pick = random.nextInt(100);
            if (profile == 2 ? pick < 60 : pick < 12) {
                tellThing(random.nextInt(profile == 2 ? 2 : 6) == 0);
            } else if (profile == 2 ? pick < 90 : pick < 26) {
                tellPath(random.nextInt(profile == 2 ? 2 : 6) == 0);
            } else {
                call(profile, random.nextInt(profile == 1 ? 20 : 17));
            }
        }
    }

    private void grow() {
        tell("[1,2,(3,-4),{a:5,b:6},#7[8],9,[],10,3,3]");
        due("thing(0)", real.thing(0), model.thing(0));
        for (int i = 0; i < 3; i++) {
            due("put(0,1,0,0,0)", real.put(0, 1, 0, 0, 0), model.put(0, 1, 0, 0, 0));
        }
        for (int i = 0; i < 6; i++) {
            String path = new String[] {"%", "*", "~~", "~~~", "~%", "***<3>"}[i];
            tell(path);
            due("path(" + i + ") " + path, real.path(i), model.path(i));
        }
        // near the end of what may be made, so that it is met in the midst of all kinds of calls
        int overs = random.nextInt(24);
        for (int i = 0; i < overs; i++) {
            int how = random.nextInt(4);
            due("over(1, 0, 0, " + how + ", 3)", real.over(1, 0, 0, how, 3), model.over(1, 0, 0, how, 3));
        }
    }

    private void due(String call, long got, long want) {
        calls++;
        log.add(call + " " + got);
        if (got != want) {
            isWrong = true;
            System.out.println(String.join("\n", log));
        }
        DUE.is(call, got, want);
    }

    private int shelf() {
        return random.nextInt(random.nextInt(3) == 0 ? 12 : 4);
    }

    private int pathNumber() {
        return random.nextInt(random.nextInt(3) == 0 ? 8 : 4);
    }

    private int odd(int usual) {
        int[] odd = {-1, 8, 9, 10, 12, 26, 200, Integer.MIN_VALUE, Integer.MAX_VALUE, -2, 7, 11};
        return odd[random.nextInt(odd.length)] + 0 * usual;
    }

    /** Some of a call's numbers made odd. */
    private int[] numbers(int profile, int... usual) {
        for (int i = 0; i < usual.length; i++) {
            if (random.nextInt(profile == 3 ? 6 : 60) == 0) {
                usual[i] = odd(usual[i]);
            }
        }
        return usual;
    }

    private int amount() {
        int[] some = {0, 1, -1, 2, 3, 5, 9, 1000000, Integer.MAX_VALUE, Integer.MIN_VALUE};
        return some[random.nextInt(some.length)];
    }

    private void call(int profile, int which) {
        int k = random.nextInt(random.nextInt(3) == 0 ? 60 : 4);
        int[] a;
        switch (which) {
            case 0, 1, 17, 18:
                int how = random.nextInt(12);
                int n = how == 5 ? random.nextInt(10) : how == 7 ? shelf() : amount();
                a = numbers(profile, shelf(), shelf(), pathNumber(), how, n);
                due("over" + text(a), real.over(a[0], a[1], a[2], a[3], a[4]), model.over(a[0], a[1], a[2], a[3], a[4]));
                break;
            case 2, 19:
                a = numbers(profile, shelf(), random.nextInt(3), shelf(), shelf(), random.nextInt(26));
                due("put" + text(a), real.put(a[0], a[1], a[2], a[3], a[4]), model.put(a[0], a[1], a[2], a[3], a[4]));
                break;
            case 3:
                a = numbers(profile, shelf(), shelf(), pathNumber(), k);
                due("take" + text(a), real.take(a[0], a[1], a[2], a[3]), model.take(a[0], a[1], a[2], a[3]));
                break;
            case 4:
                a = numbers(profile, shelf());
                due("undo" + text(a), real.undo(a[0]), model.undo(a[0]));
                break;
            case 5:
                a = numbers(profile, shelf(), pathNumber(), k, random.nextInt(4));
                due("look" + text(a), real.look(a[0], a[1], a[2], a[3]), model.look(a[0], a[1], a[2], a[3]));
                break;
            case 6:
                a = numbers(profile, shelf(), pathNumber(), random.nextInt(3), random.nextInt(3));
                due("key" + text(a), real.key(a[0], a[1], a[2], a[3]), model.key(a[0], a[1], a[2], a[3]));
                break;
            case 7, 8:
                a = numbers(profile, shelf(), pathNumber(), random.nextInt(7));
                due("fold" + text(a), real.fold(a[0], a[1], a[2]), model.fold(a[0], a[1], a[2]));
                break;
            case 9:
                a = numbers(profile, shelf(), pathNumber(), random.nextInt(3), k);
                due("best" + text(a), real.best(a[0], a[1], a[2], a[3]), model.best(a[0], a[1], a[2], a[3]));
                break;
            case 10:
                a = numbers(profile, shelf(), shelf());
                due("order" + text(a), real.order(a[0], a[1]), model.order(a[0], a[1]));
                break;
            case 11:
                a = numbers(profile, shelf(), shelf());
                due("shared" + text(a), real.shared(a[0], a[1]), model.shared(a[0], a[1]));
                break;
            case 12, 13:
                a = numbers(profile, shelf(), shelf(), k - 1);
                due("differ" + text(a), real.differ(a[0], a[1], a[2]), model.differ(a[0], a[1], a[2]));
                break;
            case 14:
                a = numbers(profile, shelf(), pathNumber(), shelf());
                due("fit" + text(a), real.fit(a[0], a[1], a[2]), model.fit(a[0], a[1], a[2]));
                break;
            case 15:
                a = numbers(profile, pathNumber(), pathNumber());
                due("join" + text(a), real.join(a[0], a[1]), model.join(a[0], a[1]));
                break;
            default:
                rare(profile);
                break;
        }
    }

    private void rare(int profile) {
        int pick = random.nextInt(12);
        if (pick == 0) {
            due("image()", real.image(), model.image());
        } else if (pick == 1) {
            due("back()", real.back(), model.back());
        } else {
            int[] a = numbers(profile, random.nextInt(22));
            due("count" + text(a), real.count(a[0]), model.count(a[0]));
        }
    }

    private static String text(int[] numbers) {
        StringBuilder s = new StringBuilder("(");
        for (int i = 0; i < numbers.length; i++) {
            s.append(i == 0 ? "" : ", ").append(numbers[i]);
        }
        return s.append(")").toString();
    }

    private void tell(String text) {
        byte[] bytes = text.getBytes(StandardCharsets.ISO_8859_1);
        for (int at = 0; at < bytes.length; at += 4) {
            int n = Math.min(4, bytes.length - at);
            int word = Due.word(bytes, at, n);
            due("feed(" + n + ", " + word + ")", real.feed(n, word), model.feed(n, word));
        }
    }

    private String spoilt(String text) {
        boolean isUsual = random.nextInt(4) != 0;
        char stray = isUsual ? STRAY.charAt(random.nextInt(STRAY.length())) : (char) random.nextInt(256);
        int at = random.nextInt(text.length() + 1);
        switch (random.nextInt(4)) {
            case 0:
                return text.substring(0, at);
            case 1:
                return text.substring(0, at) + stray + text.substring(at);
            case 2:
                return at < text.length() ? text.substring(0, at) + stray + text.substring(at + 1) : text + stray;
            default:
                return at < text.length() ? text.substring(0, at) + text.substring(at + 1) : text;
        }
    }

    private void tellThing(boolean isSpoilt) {
        int shape = random.nextInt(12);
        String text = shape == 0 ? deep(random.nextInt(16)) : shape == 1 ? wide() : someThing(random.nextInt(5));
        text = text.length() > 100 ? text.substring(0, 100) : text;
        tell(isSpoilt ? spoilt(text) : text);
        int shelf = numbers(0, shelf())[0];
        due("thing(" + shelf + ") " + text, real.thing(shelf), model.thing(shelf));
    }

    private void tellPath(boolean isSpoilt) {
        StringBuilder text = new StringBuilder();
        int size = random.nextInt(random.nextInt(6) == 0 ? 11 : 4);
        for (int i = 0; i < size; i++) {
            text.append(someStep());
        }
        tell(isSpoilt ? spoilt(text.toString()) : text.toString());
        int path = numbers(0, pathNumber())[0];
        due("path(" + path + ") " + text, real.path(path), model.path(path));
    }

    private String someStep() {
        String[] usual = {"*", "~", "%", "*", "~", "%", ".0", ".1", "/0", "/1", "/2", "/11", "$a.", "$b.", "$ab.", "#1",
            "#2", "<1>", "<4>", "<20>", "=1;", "=3;", "=-2;", "=0;"};
        return usual[random.nextInt(usual.length)];
    }

    private String deep(int levels) {
        String[] around = {"[", "]", "(1,", ")", "{a:", "}", "#1", "", "(", ",2)"};
        int pick = random.nextInt(5) * 2;
        String inner = random.nextBoolean() ? "1" : random.nextBoolean() ? "[]" : "{}";
        return around[pick].repeat(levels) + inner + around[pick + 1].repeat(levels);
    }

    private String wide() {
        int size = 10 + random.nextInt(5);
        boolean isRow = random.nextBoolean();
        StringBuilder s = new StringBuilder(isRow ? "[" : "{");
        for (int i = 0; i < size; i++) {
            s.append(i == 0 ? "" : ",").append(isRow ? "" : (char) ('a' + i) + ":").append(random.nextInt(4));
        }
        return s.append(isRow ? "]" : "}").toString();
    }

    private String someKey() {
        String[] keys = {"a", "b", "c", "ab", "ba", "z", "aa", "abc", "abd", "zz", "zzz", "d"};
        return keys[random.nextInt(keys.length)];
    }

    private String someThing(int depth) {
        int pick = depth == 0 ? 0 : random.nextInt(8);
        int size = random.nextInt(4);
        StringBuilder s = new StringBuilder();
        switch (pick) {
            case 0:
                return random.nextInt(8) == 0 ? "" + (random.nextInt(2000000) - 1000000) : "" + (random.nextInt(7) - 2);
            case 1, 2:
                return "(" + someThing(depth - 1) + "," + someThing(depth - 1) + ")";
            case 3, 4, 5:
                for (int i = 0; i < size; i++) {
                    s.append(i == 0 ? "" : ",").append(someThing(depth - 1));
                }
                return "[" + s + "]";
            case 6:
                for (int i = 0; i < size; i++) {
                    s.append(i == 0 ? "" : ",").append(someKey()).append(":").append(someThing(depth - 1));
                }
                return "{" + s + "}";
            default:
                return "#" + random.nextInt(3) + someThing(depth - 1);
        }
    }
}
