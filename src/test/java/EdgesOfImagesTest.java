/** The edges of promises 35 to 40, sentence by sentence. */
public final class EdgesOfImagesTest {
    private static final Due due = new Due();
    private static final int MIN = Integer.MIN_VALUE;
    private static final int MAX = Integer.MAX_VALUE;

    public static void main(String[] args) {
        image();
        restore();
        restoreFull();
        notKept();
        tell();
        check();
        checkPlaces();
        checkErrors();
        count();
        told();
        toldErrors();
        due.end();
    }

    private static void image() {
        Edge p = new Edge(due, 35, BreakTime::new);
        p.taken("the first", 1, x -> x.image(), "the second", 2, x -> x.image());
        p.taken("of an empty yard", 1, x -> x.image(), "it is there", 0, x -> x.restore());
        p.taken("in place of one ahead", 2, x -> x.image() + x.minutes(1) * 0 + x.image() - 1,
                "the latter", 1, x -> x.restore());
        p.by(Edge::rich).taken("one more", 2, x -> x.image(), "restore() doesn't count", 3,
                x -> x.restore() * 0 + x.image());
        p.by(Edge::rich).refusedWith("how often stays behind an ERROR", Due.BEYOND, x -> x.childIs(4, 0),
                "the second", 2, x -> x.image());
        BreakTime x = new BreakTime();
        for (int i = 1; i <= 500; i++) {
            due.is("promise 35: the one " + i, x.image(), i);
        }
    }

    private static void restore() {
        Edge p = new Edge(due, 36, BreakTime::new);
        p.refused("an empty yard", Due.NONE, x -> x.restore());
        p.by(() -> Due.children(4, 107)).refused("children, but no IMAGE", Due.NONE, x -> x.restore());
        p.taken("an IMAGE of an empty yard", 0, x -> x.image() * x.child(0, 0, 0) + x.restore(), "no CHILDREN", 0,
                x -> x.count(0));
        p.by(Edge::rich).taken("MINUTES of the IMAGE", 2, x -> x.restore(), "once more: it stays", 2,
                x -> x.minutes(9) * 0 + x.restore());
        p.by(Edge::rich).taken("just behind image()", 4, x -> x.image() * 0 + x.restore());
        BreakTime x = Edge.rich();
        x.image();
        String ahead = Due.state(x);
        x.minutes(60);
        x.terms(20);
        for (int i = 0; i < 4; i++) {
            x.set(i, 0, 5);
        }
        x.restore();
        due.same("promise 36: all is as the IMAGE has it", Due.state(x), ahead);
    }

    private static void restoreFull() {
        BreakTime x = Edge.full();
        String ahead = Due.state(x);
        x.image();
        x.check(0);
        x.text(0);
        x.minutes(20);
        due.is("promise 36: a full yard", x.restore(), 0);
        due.same("promise 36: it is full again", Due.state(x), ahead);
        due.is("promise 36: CHILDREN are full again", x.child(0, 0, 0), Due.FULL);
        due.is("promise 36: HEAPS are full again", x.heap(1, 1), Due.FULL);
        due.is("promise 36: THE TAPE is full again", x.feed(0, 1), Due.FULL);
        due.is("promise 36: the numbers that wait are full again", x.tell(0), Due.FULL);
    }

    private static void notKept() {
        Edge p = new Edge(due, 35, Edge::rich);
        p.taken("SHEETS aren't kept: changed", 2, x -> x.put(0, 0, 55) + x.restore() - 1, "as it was changed", 55,
                x -> x.slips(0, 1) * 0 + x.likes(1, 0, 0));
        p.taken("SHEETS aren't kept: missing", 2, x -> x.sheet(0, 0, 0) + x.restore() - 1, "missing", Due.NONE,
                x -> x.put(0, 0, 0));
        p.taken("SHEETS aren't kept: new", 2, x -> x.sheet(2, 8, 24) + x.restore() - 1, "there", 1,
                x -> x.put(2, 23, 0));
        p.taken("THE TRACE isn't kept", 2, x -> x.voice(3, 0, 0) * 0 + x.restore(), "the latest", 70, x -> x.body(0));
        p.refusedWith("what told() tells isn't kept", Due.KIND, x -> x.as(0, 6), "it is counted still", 2,
                x -> x.restore() * 0 + x.told(5));
        p.taken("THE TAPE is kept: it was empty", 2, x -> x.restore(), "bytes", 0, x -> x.count(5));
        p.taken("the numbers that wait are kept: none", 2, x -> x.restore(), "how many", 0, x -> x.count(6));
        p.taken("TERMS are kept", 2, x -> x.restore(), "TERMS", 0, x -> x.count(3));
        p.taken("TEXTS are kept: none", 2, x -> x.restore(), "none", 0, x -> x.untell(0) + x.untell(1));
        p.taken("RULE is kept", 2, x -> x.restore(), "RULE", 98, x -> x.heapIs(1, 2));
        p.taken("z is kept", 2, x -> x.restore() + x.seed(5) * 0, "z", 2, x -> x.restore() + x.count(8) - zOfImage());
    }

    /** z when the IMAGE of the rich yard was made: three by the wall drew twice each. */
    private static int zOfImage() {
        int z = 1;
        for (int i = 0; i < 6; i++) {
            z = z * 1103515245 + 12345;
        }
        return z;
    }

    private static BreakTime waiting(int n) {
        BreakTime x = Due.children(10, 0);
        x.heap(1, 10);
        x.heap(1, 10);
        for (int i = 0; i < n; i++) {
            x.tell(i);
        }
        return x;
    }

    private static void tell() {
        Edge p = new Edge(due, 37, BreakTime::new);
        int[] v = {0, 1, -1, MIN, MAX, -1000001};
        for (int one : v) {
            p.taken("any number: " + one, 1, x -> x.tell(one), "one waits", 1, x -> x.count(6));
        }
        p.by(() -> waiting(22)).taken("the 23rd", 23, x -> x.tell(0), "how many", 23, x -> x.count(6));
        p.by(() -> waiting(23)).taken("the 24th, the last", 24, x -> x.tell(0), "how many", 24, x -> x.count(6));
        p.by(() -> waiting(24)).refused("a 25th", Due.FULL, x -> x.tell(0));
        p.by(() -> waiting(24)).refused("a 25th, MIN", Due.FULL, x -> x.tell(MIN));
        p.by(() -> waiting(24)).refusedWith("a 25th", Due.FULL, x -> x.tell(0), "anew behind check()", 1,
                x -> x.check(0) * 0 + x.tell(0));
        p.by(Edge::full).refused("all is full", Due.FULL, x -> x.tell(0));
    }

    /** Children with these bits in HEAP 0; these numbers wait. */
    private static BreakTime told(int inside, int... numbers) {
        BreakTime x = waiting(0);
        for (int i = 0; i < 10; i++) {
            if ((inside >> i & 1) != 0) {
                x.join(i, 0);
            }
        }
        for (int v : numbers) {
            x.tell(v);
        }
        return x;
    }

    private static void checked(String what, int want, int inside, int... numbers) {
        Edge p = new Edge(due, 38, () -> told(inside, numbers));
        p.taken(what, want, x -> x.check(0), "none wait then", 0, x -> x.count(6));
        p.taken(what, want, x -> x.check(0), "those in it", inside, x -> x.heapIs(0, 3));
    }

    private static void check() {
        checked("nobody in it, none wait", 0, 0);
        checked("nobody in it, one waits", 1, 0, 0);
        checked("nobody in it, -1 waits", 1, 0, -1);
        checked("one in it, none wait", 1, 1);
        checked("the first child", 0, 1, 0);
        checked("the last child", 0, 512, 9);
        checked("all ten", 0, 1023, 0, 1, 2, 3, 4, 5, 6, 7, 8, 9);
        checked("all ten, none wait", 1, 1023);
        checked("all ten, one lacks", 10, 1023, 0, 1, 2, 3, 4, 5, 6, 7, 8);
        checked("all ten, one too many", 11, 1023, 0, 1, 2, 3, 4, 5, 6, 7, 8, 9, 10);
        checked("all ten, the last isn't so", 10, 1023, 0, 1, 2, 3, 4, 5, 6, 7, 8, 8);
    }

    private static void checkPlaces() {
        int inside = 4 + 32 + 128;
        checked("those in it", 0, inside, 2, 5, 7);
        checked("not the least first", 1, inside, 5, 2, 7);
        checked("the first isn't so", 1, inside, 3, 5, 7);
        checked("the second isn't so", 2, inside, 2, 6, 7);
        checked("the third isn't so", 3, inside, 2, 5, 8);
        checked("the third lacks", 3, inside, 2, 5);
        checked("all but the first lack", 2, inside, 2);
        checked("one too many", 4, inside, 2, 5, 7, 9);
        checked("one too many, the same", 4, inside, 2, 5, 7, 7);
        checked("one twice", 2, inside, 2, 2, 5, 7);
        checked("far", 1, inside, MIN, 5, 7);
        checked("far, the last", 3, inside, 2, 5, MAX);
        Edge p = new Edge(due, 38, () -> waiting(24));
        p.taken("24 wait for nobody", 1, x -> x.check(0), "none wait then", 0, x -> x.count(6));
        p.taken("another HEAP's", 1, x -> x.join(3, 0) * x.check(1), "none wait then", 0, x -> x.count(6));
    }

    private static void checkErrors() {
        Edge p = new Edge(due, 38, Edge::rich);
        int[] heap = {-1, 2, 5, MIN, MAX};
        for (int v : heap) {
            p.refusedWith("HEAP " + v, Due.BEYOND, x -> x.check(v), "none wait then, too", 0, x -> x.count(6));
            p.refusedWith("HEAP " + v, Due.BEYOND, x -> x.check(v), "nobody has gone", 12, x -> x.heapIs(0, 3));
            p.by(BreakTime::new).refused("HEAP " + v + " in an empty yard", Due.BEYOND, x -> x.check(v));
            p.by(() -> waiting(24)).refusedWith("HEAP " + v + ", 24 wait", Due.BEYOND, x -> x.check(v),
                    "none wait then, too", 0, x -> x.count(6));
        }
        p.by(BreakTime::new).refused("HEAP 0 in an empty yard", Due.BEYOND, x -> x.check(0));
    }

    private static void count() {
        Edge p = new Edge(due, 39, Edge::rich);
        int[] want = {4, 2, 4, 2, 1, 5, 2, 5};
        for (int i = 0; i < want.length; i++) {
            int what = i;
            p.shows("what " + i, want[i], x -> x.count(what));
        }
        p.by(BreakTime::new).shows("what 8, the greatest", 1, x -> x.count(8));
        int[] full = {10, 5, 0, 0, 682, 60, 24, 0, 1};
        for (int i = 0; i < full.length; i++) {
            int what = i;
            p.by(Edge::full).shows("of a full yard, what " + i, full[i], x -> x.count(what));
        }
        p.by(() -> Due.children(10, 0)).shows("all ten by the wall", 1023, x -> x.count(4));
        p.by(() -> told(1023)).shows("nobody by the wall", 0, x -> x.count(4));
        p.taken("z that looks like an ERROR is none", -1000006, x -> x.seed(-1000006) * 0 + x.count(8));
        int[] what = {-1, 9, MIN, MAX};
        for (int v : what) {
            p.refused("what " + v, Due.BEYOND, x -> x.count(v));
        }
    }

    private static void told() {
        Edge p = new Edge(due, 40, BreakTime::new);
        p.refusedWith("k 1, the least", Due.BEYOND, x -> x.childIs(0, 0), "told(1)", 1, x -> x.told(1));
        p.refusedWith("k 2", Due.NONE, x -> x.restore(), "told(2)", 1, x -> x.told(2));
        p.by(() -> Edge.one(0)).refusedWith("k 3", Due.STATE, x -> x.leave(0), "told(3)", 1, x -> x.told(3));
        p.by(Edge::full).refusedWith("k 4", Due.FULL, x -> x.tell(0), "told(4)", 1, x -> x.told(4));
        p.by(() -> Edge.one(0)).refusedWith("k 5", Due.KIND, x -> x.as(0, 1), "told(5)", 1, x -> x.told(5));
        p.by(() -> Edge.one(0)).refusedWith("k 6, the greatest", Due.PARTED, x -> x.voice(0, 3, 1), "told(6)", 1,
                x -> x.told(6));
        p.by(Edge::rich).shows("told(5) of one ERROR ahead", 1, x -> x.told(5));
        p.shows("a FAULT is no ERROR", -10, x -> x.text(0));
        p.taken("z isn't", -1000001, x -> x.seed(-1000001) * 0 + x.seed(0));
        BreakTime x = new BreakTime();
        for (int i = 1; i <= 250; i++) {
            x.restore();
            due.is("promise 40: told(2) counts " + i, x.told(2), i);
        }
    }

    private static void toldErrors() {
        Edge p = new Edge(due, 40, Edge::rich);
        int[] k = {0, 7, -1, MIN, MAX};
        for (int v : k) {
            p.refused("k " + v, Due.BEYOND, x -> x.told(v));
            p.by(BreakTime::new).refusedWith("k " + v, Due.BEYOND, x -> x.told(v), "counted, too", 1, x -> x.told(1));
        }
    }
}
