import java.util.Random;

/** Whatever the arguments and the state: no call throws, and an ERROR changes nothing but told(). */
public final class SafetyTest {
    private static final Due due = new Due();
    private static final int[] EDGES = {Integer.MIN_VALUE, Integer.MAX_VALUE, -1, 100, 1000, -1000001};
    private static final String[] TEXTS = {
        "w", "l+o", "r-x*2", "(n>1)*20-a/3", "l/0%o", "!f+h", "((((w", "12345", "x+", "9999*9999*9999*9999"
    };
    private static final int CALLS = 38;

    private final Random random;
    private final BreakTime x = new BreakTime();

    private SafetyTest(long seed) {
        random = new Random(seed);
    }

    public static void main(String[] args) {
        for (int seed = 0; seed < 400; seed++) {
            SafetyTest test = new SafetyTest(seed);
            for (int i = 0; i < 512; i++) {
                test.step(seed, i);
            }
        }
        due.end();
    }

    private void step(int seed, int i) {
        String ahead = i % 8 == 0 ? Due.state(x) : "";
        String errorsAhead = Due.errors(x);
        int call = random.nextInt(CALLS);
        try {
            int answer = call(call);
            boolean failed = !Due.errors(x).equals(errorsAhead);
            due.holds("an ERROR is answered where one is told, call " + call, !failed || answer < -1000000);
            // call 11 feeds ahead of what it answers, check() empties what waits,
            // a PARTED voice() leaves THE TRACE of what began
            boolean free = call == 11 || call == 34 || answer == Due.PARTED;
            if (failed && !ahead.isEmpty() && !free) {
                due.same("state after the ERROR " + answer + " of call " + call, Due.state(x), ahead);
            }
        } catch (RuntimeException e) {
            due.same("run " + seed + ", call " + call, e.toString(), "no exception");
        }
    }

    private int any(int from, int to) {
        return random.nextInt(40) == 0 ? EDGES[random.nextInt(EDGES.length)] : from + random.nextInt(to - from + 1);
    }

    private int kid() {
        return any(0, Math.max(0, x.count(0) - (random.nextInt(20) == 0 ? 0 : 1)));
    }

    private int heap() {
        return any(0, Math.max(0, x.count(1) - (random.nextInt(20) == 0 ? 0 : 1)));
    }

    private int feedAny() {
        if (random.nextInt(3) == 0) {
            return x.feed(random.nextLong(), any(1, 8));
        }
        Due.feed(x, TEXTS[random.nextInt(TEXTS.length)]);
        return x.text(any(0, 1));
    }

    private int call(int call) {
        switch (call) {
            case 0: return x.child(any(0, 699), any(0, 99), any(0, 1));
            case 1: return x.childIs(kid(), any(-1, 8));
            case 2: return x.as(kid(), any(0, 6));
            case 3: return x.set(kid(), any(0, 4), any(0, 6));
            case 4: return x.likes(kid(), kid(), any(0, 100));
            case 5: return x.heap(any(0, 3), any(3, 11));
            case 6: return x.heapIs(heap(), any(-1, 5));
            case 7: return x.rule(heap(), any(0, 100));
            case 8: return x.join(kid(), heap());
            case 9: return x.leave(kid());
            case 10: return x.between(kid(), heap(), any(0, 3));
            case 11: return feedAny();
            case 12: return x.text(any(0, 1));
            case 13: return x.untell(any(0, 1));
            case 14: return x.minutes(any(1, 10));
            case 15: return x.terms(any(1, 20));
            case 16: return x.both(kid());
            case 17: return x.ring(kid());
            case 18: return x.net(any(0, 4));
            case 19: return x.then(any(0, 60), kid(), any(0, 8));
            default: return callMore(call);
        }
    }

    private int callMore(int call) {
        switch (call) {
            case 20: return x.sorrow(any(0, 60));
            case 21: return x.word(kid(), any(0, 20));
            case 22: return x.teach(kid(), any(0, 20));
            case 23: return random.nextInt(10) == 0 ? x.classes(any(0, 2)) : x.net(any(0, 3));
            case 24: return x.best(kid());
            case 25: return x.voice(kid(), any(0, 4), any(-5, 5));
            case 26: return x.body(any(0, 6));
            case 27: return x.sheet(any(0, 4), 8 * any(0, 4), any(-1, 26));
            case 28: return x.put(any(0, 4), any(0, 12), any(-1, 99));
            case 29: return x.move(any(0, 3), any(-1, 9), any(0, 3), any(-1, 9), any(-1, 9));
            case 30: return x.slips(any(0, 3), kid());
            case 31: return x.film(any(0, 3), any(0, 60));
            case 32: return random.nextInt(4) == 0 ? x.image() : x.restore();
            case 33: return x.tell(any(0, 9));
            case 34: return x.check(heap());
            case 35: return x.count(any(0, 9));
            case 36: return x.told(any(0, 7));
            // z may be any number, one that looks like an ERROR, too
            default: return x.seed(random.nextInt());
        }
    }
}
