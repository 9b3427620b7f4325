import java.lang.reflect.Method;
import java.util.HashMap;
import java.util.Map;
import java.util.Random;

/**
 * All promises together: any runs of calls, each answered by the class as by Plain, the document
 * written a second time. Between them they must come to every act and every ERROR it tells.
 */
public final class ManyRunsTest {
    private static final Due due = new Due();
    private static final int RUNS = Integer.getInteger("runs", 250);
    private static final int CALLS = 512;
    private static final int[] FAR = {Integer.MIN_VALUE, -1000001, -2, -1, 61, 100, 1000, Integer.MAX_VALUE};
    private static final Map<String, Method> OF_CLASS = methods(BreakTime.class);
    private static final Map<String, Method> OF_PLAIN = methods(Plain.class);
    private static final Map<String, Integer> ANSWERS = new HashMap<>();

    private final Random random;
    private final BreakTime x = new BreakTime();
    private final Plain plain = new Plain();
    private final StringBuilder tried = new StringBuilder();
    private final int mood;
    private int calls;
    private boolean parted;

    private ManyRunsTest(long seed) {
        random = new Random(seed);
        // the first number that Random gives is much the same for seeds so near to each other
        mood = (int) (seed % 4);
    }

    public static void main(String[] args) throws ReflectiveOperationException {
        int start = Integer.getInteger("start", 0);
        for (int seed = start; seed < start + RUNS; seed++) {
            ManyRunsTest run = new ManyRunsTest(seed);
            run.all(seed);
            if (run.parted) {
                System.out.println("run " + seed + ": " + run.tried);
            }
            due.holds("run " + seed, !run.parted);
        }
        errorsCameToPass();
        due.end();
    }

    private static Map<String, Method> methods(Class<?> one) {
        Map<String, Method> all = new HashMap<>();
        for (Method method : one.getDeclaredMethods()) {
            if (java.lang.reflect.Modifier.isPublic(method.getModifiers())) {
                all.put(method.getName(), method);
            }
        }
        return all;
    }

    /** A call of both; what they answer must be the same. */
    private int call(String name, Object... args) throws ReflectiveOperationException {
        if (parted || calls == CALLS) {
            return 0;
        }
        calls++;
        int want = (Integer) OF_PLAIN.get(name).invoke(plain, args);
        int got = (Integer) OF_CLASS.get(name).invoke(x, args);
        String known = want <= -1000001 && want >= -1000006 ? " " + want : "";
        ANSWERS.merge(name + known, 1, Integer::sum);
        tried.append(name).append(java.util.Arrays.toString(args)).append(' ').append(want).append("; ");
        if (got != want) {
            tried.append("BUT ").append(got);
            parted = true;
        }
        return want;
    }

    private int any(int from, int to) {
        if (random.nextInt(60) == 0) {
            return FAR[random.nextInt(FAR.length)];
        }
        return from + random.nextInt(to - from + 1);
    }

    private int kid() {
        return any(0, Math.max(0, plain.count(0) - 1));
    }

    private int game() {
        return any(0, Math.max(0, plain.count(1) - 1));
    }

    private void all(int seed) throws ReflectiveOperationException {
        begin();
        int whole = mood == 0 ? 150 : CALLS;
        while (calls < whole && !parted) {
            step();
        }
        for (int k = 1; k <= 6; k++) {
            call("told", k);
        }
    }

    /** A yard of any size; some runs go through many TERMS, so that they come to the last one. */
    private void begin() throws ReflectiveOperationException {
        int children = random.nextInt(11);
        int most = random.nextBoolean() ? 99 : 12;
        for (int i = 0; i < children; i++) {
            call("child", 100 * random.nextInt(7) + random.nextInt(most + 1), any(0, 99), any(0, 1));
        }
        int heaps = random.nextInt(6);
        for (int i = 0; i < heaps; i++) {
            int least = 1 + random.nextInt(mood == 1 ? 6 : 3);
            call("heap", least, least + random.nextInt(3));
            if (random.nextBoolean()) {
                call("rule", i, random.nextInt(100));
            }
        }
        for (int i = 0; i < children * 3; i++) {
            call("likes", kid(), kid(), any(0, 99));
        }
        call("seed", random.nextInt());
        for (int i = 0; mood == 3 && i < 48; i++) {
            call("terms", 20);
        }
    }

    private void step() throws ReflectiveOperationException {
        switch (random.nextInt(46)) {
            case 0: call("child", any(0, 699), any(0, 99), any(0, 1)); break;
            case 1: call("childIs", kid(), any(-1, 8)); break;
            case 2: call("as", kid(), any(0, 6)); break;
            case 3: call("set", kid(), any(0, 4), any(0, random.nextBoolean() ? 6 : 99)); break;
            case 4: case 5: case 6: call("likes", kid(), kid(), any(0, 99)); break;
            case 7: call("heap", any(0, 4), any(3, 11)); break;
            case 8: call("heapIs", game(), any(-1, 5)); break;
            case 9: call("rule", game(), any(0, 99)); break;
            case 10: case 11: call("join", kid(), game()); break;
            case 12: call("leave", kid()); break;
            case 13: case 14: case 15: call("between", kid(), game(), any(0, 3)); break;
            case 16: case 17: tellText(); break;
            case 18: call("untell", any(0, 1)); break;
            case 19: case 20: call("minutes", any(1, random.nextInt(4) == 0 ? 60 : 4)); break;
            case 21: case 43: call("terms", mood == 3 ? 20 : any(1, random.nextBoolean() ? 2 : 20)); break;
            case 22: call("seed", random.nextInt()); break;
            case 23: call("both", kid()); break;
            case 24: call("ring", kid()); break;
            case 25: call("net", any(0, 3)); break;
            case 26: case 27: call("then", any(0, 60), kid(), any(0, 7)); break;
            default: stepOn(); break;
        }
    }

    private void stepOn() throws ReflectiveOperationException {
        switch (random.nextInt(18)) {
            case 0: call("sorrow", any(0, 60)); break;
            case 1: case 2: call("word", kid(), any(0, 20)); break;
            case 3: call("teach", kid(), any(0, 20)); break;
            case 4: call(random.nextInt(4) == 0 ? "classes" : "net", any(0, 1)); break;
            case 5: call("best", kid()); break;
            case 6: speak(); break;
            case 7: call("body", any(0, 6)); break;
            case 8: call("sheet", any(0, 3), bits(), any(-1, 25)); break;
            case 9: write(); break;
            case 10: call("put", any(0, 3), any(-1, 24), random.nextInt()); break;
            case 11: call("move", any(0, 3), any(-1, 12), any(0, 3), any(-1, 12), any(-1, 12)); break;
            case 12: call("slips", any(0, 3), kid()); break;
            case 13: call("film", any(0, 3), any(0, 10)); break;
            case 14: call(random.nextInt(3) == 0 ? "image" : "restore"); break;
            case 15: check(); break;
            case 16: call("count", any(0, 8)); break;
            default: call("told", any(1, 6)); break;
        }
    }

    private int bits() {
        int[] bits = {0, 8, 8, 16, 32, 32, 7};
        return bits[random.nextInt(bits.length)];
    }

    private void speak() throws ReflectiveOperationException {
        int x = random.nextInt(3) == 0 ? random.nextInt() : random.nextInt(41) - 20;
        int child = kid();
        if (random.nextInt(5) == 0) {
            call("set", child, 1, child);
        }
        call("voice", child, any(0, 3), x);
        for (int i = random.nextInt(8); i >= 0; i--) {
            call("body", i);
        }
    }

    /** A SHEET that is written through, often as the yard will be. */
    private void write() throws ReflectiveOperationException {
        int sheet = any(0, 3);
        int n = 1 + random.nextInt(10);
        call("sheet", sheet, 8 << random.nextInt(3), n);
        int ahead = random.nextInt(10);
        boolean film = random.nextBoolean();
        for (int i = 0; i < n; i++) {
            int v = film && i < plain.count(0) ? plain.then(ahead, i, 4) : any(0, 99);
            call("put", sheet, i, random.nextInt(12) == 0 ? random.nextInt() : v);
        }
        call("film", sheet, ahead);
        call("slips", sheet, kid());
    }

    /** The numbers of those in a HEAP, sometimes with one lost, put in or changed. */
    private void check() throws ReflectiveOperationException {
        int heap = game();
        int fault = random.nextInt(4);
        for (int i = 0; i < plain.count(0); i++) {
            boolean in = plain.childIs(i, 4) == heap;
            boolean slips = random.nextInt(4) == 0;
            if (in && !(fault == 0 && slips) || fault == 1 && slips) {
                call("tell", fault == 2 && slips ? any(0, 9) : i);
            }
        }
        if (random.nextInt(12) == 0) {
            for (int i = 0; i < 24; i++) {
                call("tell", random.nextInt());
            }
        }
        if (random.nextInt(5) > 0) {
            call("check", heap);
        }
    }

    private void tellText() throws ReflectiveOperationException {
        int use = any(0, 1);
        String names = use == 0 ? "wrnxa" : "lofh";
        String text = t(names, 3);
        if (random.nextInt(4) == 0) {
            int at = random.nextInt(text.length() + 1);
            String sign = "0123456789wrnxalofh!()+-*/%<=>|& ".charAt(random.nextInt(33)) + "";
            text = text.substring(0, at) + sign + text.substring(random.nextInt(2) * (at < text.length() ? 1 : 0) + at);
        }
        if (random.nextInt(30) == 0) {
            text = (char) random.nextInt(256) + text;
        }
        for (int from = 0; from < text.length(); from += 8) {
            int to = Math.min(from + 8, text.length());
            long word = random.nextLong();
            for (int i = to - 1; i >= from; i--) {
                word = word << 8 | text.charAt(i);
            }
            call("feed", word, random.nextInt(200) == 0 ? any(0, 9) : to - from);
        }
        if (random.nextInt(10) > 0) {
            call("text", use);
        }
    }

    private String joined(String part, String signs, String other) {
        return part + signs.charAt(random.nextInt(signs.length())) + other;
    }

    private String t(String names, int depth) {
        String text = a(names, depth);
        return random.nextInt(5) == 0 ? joined(text, "|", a(names, depth)) : text;
    }

    private String a(String names, int depth) {
        String text = b(names, depth);
        return random.nextInt(5) == 0 ? joined(text, "&", b(names, depth)) : text;
    }

    private String b(String names, int depth) {
        String text = s(names, depth);
        return random.nextInt(4) == 0 ? joined(text, "<=>", s(names, depth)) : text;
    }

    private String s(String names, int depth) {
        String text = p(names, depth);
        for (int i = random.nextInt(3); i > 0; i--) {
            text = joined(text, "+-", p(names, depth));
        }
        return text;
    }

    private String p(String names, int depth) {
        String text = q(names, depth);
        for (int i = random.nextInt(5) - 2; i > 0; i--) {
            text = joined(text, "*/%", q(names, depth));
        }
        return text;
    }

    private String q(String names, int depth) {
        int sort = random.nextInt(12);
        if (sort < 5) {
            return names.charAt(random.nextInt(names.length())) + "";
        }
        if (sort < 9 || depth == 0) {
            int[] bounds = {10, 100, 10000};
            return random.nextInt(bounds[random.nextInt(3)]) + "";
        }
        return sort < 10 ? "!" + q(names, depth) : "(" + t(names, depth - 1) + ")";
    }

    /** Every act has answered, and each ERROR that can come in 512 calls. */
    private static void errorsCameToPass() {
        String[] told = {
            "child 1 4", "childIs 1", "as 1 5", "set 1", "likes 1", "heap 1 4", "heapIs 1", "rule 1", "join 1 3",
            "leave 1 3", "between 1", "feed 1 4", "text 1", "untell 1", "minutes 1", "terms 1 3", "seed", "both 1",
            "ring 1", "net 1", "then 1", "sorrow 1", "word 1 2 3", "teach 1", "classes 1 2", "best 1 2", "voice 1 6",
            "body 2", "sheet 1 3", "put 1 2", "move 1 2 5", "slips 1 2", "film 1 2", "image", "restore 2", "tell 4",
            "check 1", "count 1", "told 1"
        };
        due.is("acts", told.length, 39);
        for (String one : told) {
            String[] words = one.split(" ");
            due.holds("ManyRunsTest comes to " + words[0], ANSWERS.containsKey(words[0]));
            for (int i = 1; i < words.length; i++) {
                String error = words[0] + " -100000" + words[i];
                due.holds("ManyRunsTest comes to " + error, RUNS < 200 || ANSWERS.containsKey(error));
            }
        }
    }
}
