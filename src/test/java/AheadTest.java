import java.util.Random;

/** Promises 22 to 25 and 27: then, sorrow, word, teach, best. */
public final class AheadTest {
    private static final Due due = new Due();

    public static void main(String[] args) {
        thenAndSorrow();
        word();
        teach();
        best();
        byTrying();
        errors();
        due.end();
    }

    private static void thenAndSorrow() {
        BreakTime x = new BreakTime();
        x.child(613, 8, 1);
        x.child(0, 9, 0);
        due.is("then(60, 0, 5)", x.then(60, 0, 5), 60);
        due.is("then(0, 0, 5)", x.then(0, 0, 5), 0);
        due.is("KIND", x.then(3, 0, 0), 6);
        due.is("m", x.then(3, 0, 1), 13);
        due.is("AGE", x.then(3, 0, 2), 8);
        due.is("MIND", x.then(3, 0, 3), 1);
        due.is("the HEAP", x.then(3, 0, 4), -1);
        x.likes(0, 1, 5);
        due.is("SLIP", x.then(3, 0, 6), 2);
        due.is("NAMED", x.then(3, 1, 7), 1);
        due.is("SORROW of those who MIND", x.sorrow(7), 7);
        x.heap(1, 2);
        due.is("NUMBERED is let in", x.then(1, 0, 4), 0);
        due.is("nobody is in it now", x.heapIs(0, 3), 0);
        due.is("z stands", x.count(8), 1);
        due.is("MINUTES stand", x.count(2), 0);
    }

    private static void word() {
        BreakTime x = Due.children(4, 0);
        x.heap(1, 1);
        x.heap(3, 5);
        x.rule(0, 99);
        x.rule(1, 99);
        due.is("nobody is in one", x.word(0, 5), Due.NONE);
        x.join(1, 1);
        x.join(2, 0);
        // with 1, where LEAST is 3, it would be by the wall again from the fifth MINUTE on
        due.is("at once: of several the least", x.word(3, 4), 1);
        due.is("as it falls apart", x.word(3, 5), 1);
        due.is("then it is alone again", x.word(3, 6), 2);
        x.set(3, 3, 0);
        x.set(1, 3, 0);
        due.is("no SORROW, no matter", x.word(3, 6), 1);
        x.set(3, 3, 1);
        due.is("though MOST are in it", x.word(3, 60), 2);
        due.is("still by the wall", x.childIs(3, 4), -1);
    }

    private static void teach() {
        BreakTime x = Due.children(1, 399);
        due.is("all alike without HEAPS", x.teach(0, 5), 0);
        x.heap(2, 5);
        x.rule(0, 99);
        due.is("BENCHED has 10 more than WATCHED", x.teach(0, 1), 5);
        x.rule(0, 94);
        due.is("WATCHED, CHANCE 55", x.teach(0, 1), 2);
        x.rule(0, 49);
        due.is("CHANCE 1 is too little", x.teach(0, 1), 2);
        x.rule(0, 0);
        Due.text(x, 0, "5");
        due.is("of several the least", x.teach(0, 1), 0);
        Due.text(x, 0, "0");
        x.set(0, 1, 0);
        due.is("BENCHED by 10", x.teach(0, 1), 5);
        x.heap(1, 5);
        x.rule(1, 99);
        x.rule(0, 99);
        due.is("NUMBERED makes LEAST", x.teach(0, 1), 6);
        due.is("KIND stands", x.childIs(0, 0), 3);
        due.is("AHEAD by 0", x.teach(0, 0), 0);
    }

    private static void best() {
        BreakTime x = Due.children(2, 0);
        due.is("none", x.best(0), Due.NONE);
        x.heap(1, 5);
        x.heap(1, 5);
        x.heap(1, 5);
        due.is("of like ones the least", x.best(0), 0);
        x.rule(0, 31);
        due.is("the most CHANCE", x.best(0), 1);
        x.rule(2, 29);
        due.is("the most CHANCE, the last", x.best(0), 2);
        x.join(1, 0);
        x.likes(1, 0, 50);
        due.is("the warmest", x.best(0), 0);
        for (int heap = 0; heap < 3; heap++) {
            x.rule(heap, 99);
        }
        x.likes(1, 0, 0);
        due.is("CHANCE 0 of all", x.best(0), 0);
        due.same("ERRORS", Due.errors(x), "0 1 0 0 0 0 ");
    }

    private static BreakTime anyYard(Random random) {
        BreakTime x = new BreakTime();
        int n = 2 + random.nextInt(9);
        for (int i = 0; i < n; i++) {
            x.child(100 * random.nextInt(7) + random.nextInt(12), random.nextInt(100), random.nextInt(2));
        }
        int heaps = 1 + random.nextInt(5);
        for (int i = 0; i < heaps; i++) {
            int least = 1 + random.nextInt(4);
            x.heap(least, least + random.nextInt(3));
            x.rule(i, random.nextInt(100));
        }
        for (int i = 0; i < n * 4; i++) {
            x.likes(random.nextInt(n), random.nextInt(n), random.nextInt(100));
        }
        for (int i = 0; i < n / 2; i++) {
            x.join(random.nextInt(n), random.nextInt(heaps));
        }
        if (random.nextBoolean()) {
            Due.text(x, 0, "x*3-a/2+(n>1)*w");
        }
        x.seed(random.nextInt());
        return x;
    }

    /** What would be is what comes to be; the IMAGE brings back what was. */
    private static void byTrying() {
        Random random = new Random(3);
        for (int run = 0; run < 60; run++) {
            BreakTime x = anyYard(random);
            int n = 1 + random.nextInt(60);
            int child = random.nextInt(x.count(0));
            String ahead = Due.state(x);
            x.image();
            int sorrow = x.sorrow(n);
            int alone = x.then(n, child, 5);
            int heap = x.then(n, child, 4);
            due.is("SORROW to be", x.minutes(n), sorrow);
            due.is("ALONE to be", x.childIs(child, 5), alone);
            due.is("HEAP to be", x.childIs(child, 4), heap);
            x.restore();
            due.is("teach()", x.teach(child, n), teachByTrying(x, child, n));
            x.restore();
            due.is("word()", x.word(child, n), wordByTrying(x, child, n));
            x.restore();
            due.same("nothing changes", Due.state(x), ahead);
        }
    }

    private static int teachByTrying(BreakTime x, int child, int n) {
        int best = 0;
        int least = Integer.MAX_VALUE;
        for (int kind = 0; kind < 7; kind++) {
            x.restore();
            x.set(child, 0, kind);
            x.minutes(n);
            if (x.childIs(child, 5) < least) {
                best = kind;
                least = x.childIs(child, 5);
            }
        }
        return best;
    }

    private static int wordByTrying(BreakTime x, int child, int n) {
        if (x.childIs(child, 4) >= 0) {
            return Due.STATE;
        }
        int best = Due.NONE;
        int least = Integer.MAX_VALUE;
        for (int one = 0; one < x.count(0); one++) {
            x.restore();
            int heap = x.childIs(one, 4);
            if (heap >= 0) {
                x.join(child, heap);
                int sorrow = x.minutes(n);
                if (sorrow < least) {
                    best = one;
                    least = sorrow;
                }
            }
        }
        return best;
    }

    private static void errors() {
        BreakTime x = Due.children(2, 0);
        x.heap(1, 5);
        x.join(1, 0);
        String ahead = Due.state(x);
        int[] n = {-1, 61, Integer.MIN_VALUE, Integer.MAX_VALUE};
        for (int v : n) {
            due.is("then(far, 0, 0)", x.then(v, 0, 0), Due.BEYOND);
            due.is("sorrow(far)", x.sorrow(v), Due.BEYOND);
            due.is("word(0, far)", x.word(0, v), Due.BEYOND);
            due.is("word(1, far): BEYOND ahead of STATE", x.word(1, v), Due.BEYOND);
            due.is("teach(0, far)", x.teach(0, v), Due.BEYOND);
        }
        int[] child = {-1, 2, Integer.MIN_VALUE, Integer.MAX_VALUE};
        for (int v : child) {
            due.is("then(0, far, 0)", x.then(0, v, 0), Due.BEYOND);
            due.is("word(far, 0)", x.word(v, 0), Due.BEYOND);
            due.is("teach(far, 0)", x.teach(v, 0), Due.BEYOND);
            due.is("best(far)", x.best(v), Due.BEYOND);
        }
        due.is("then(0, 0, 8)", x.then(0, 0, 8), Due.BEYOND);
        due.is("then(0, 0, -1)", x.then(0, 0, -1), Due.BEYOND);
        due.is("word(1, 0)", x.word(1, 0), Due.STATE);
        due.is("best(0) of nobody", new BreakTime().best(0), Due.BEYOND);
        due.same("after ERRORS", Due.state(x), ahead);
        due.same("ERRORS", Due.errors(x), "38 0 1 0 0 0 ");
        x.leave(1);
        due.is("nobody is in one", x.word(1, 0), Due.NONE);
        due.is("BEYOND ahead of NONE", x.word(1, 61), Due.BEYOND);
        due.is("STATE ahead of NONE is never both", x.word(0, 60), Due.NONE);
    }
}
