/** The edges of promises 16 to 18, 22 to 25 and 27, sentence by sentence. */
public final class EdgesOfMinutesTest {
    private static final Due due = new Due();
    private static final int MIN = Integer.MIN_VALUE;
    private static final int MAX = Integer.MAX_VALUE;

    // what z becomes by the first and the second draw from 1 on
    private static final int Z1 = 1103527590;
    private static final int Z2 = Z1 * 1103515245 + 12345;

    public static void main(String[] args) {
        minutes();
        draws();
        theirHeap();
        fallingApart();
        terms();
        termsAtTheEnd();
        termsMove();
        seed();
        then();
        sorrow();
        word();
        wordErrors();
        teach();
        best();
        due.end();
    }

    private static void minutes() {
        Edge p = new Edge(due, 16, () -> Due.children(2, 0));
        p.taken("n 1, the least", 2, x -> x.minutes(1), "MINUTES", 1, x -> x.count(2));
        p.taken("n 60, the greatest", 120, x -> x.minutes(60), "MINUTES", 60, x -> x.count(2));
        p.taken("nobody MINDS", 0, x -> x.set(0, 3, 0) * x.set(1, 3, 0) - 1 + x.minutes(9), "ALONE", 9,
                x -> x.childIs(0, 5));
        p.taken("without HEAPS no draw", 2, x -> x.minutes(1), "z", 1, x -> x.count(8));
        p.by(BreakTime::new).taken("an empty yard", 0, x -> x.minutes(60), "MINUTES", 60, x -> x.count(2));
        Edge rich = p.by(Edge::rich);
        int[] n = {0, -1, 61, MIN, MAX};
        for (int v : n) {
            rich.refused("n " + v, Due.BEYOND, x -> x.minutes(v));
        }
    }

    /** One by the wall beside a HEAP into which it comes by just that CHANCE. */
    private static BreakTime withChance(int z, int chance) {
        BreakTime x = Edge.one(0);
        Due.text(x, 0, "" + chance);
        x.seed(z);
        return x;
    }

    /** Some z whose draw leaves a rest by 100. */
    private static int seedOfRest(int rest) {
        for (int z = 0; z < 100000; z++) {
            if (((z * 1103515245 + 12345) >>> 8) % 100 == rest) {
                return z;
            }
        }
        return -1;
    }

    private static int seedBelowZero(int rest) {
        for (int z = 0; z < 100000; z++) {
            int next = z * 1103515245 + 12345;
            if (next < 0 && (next >>> 8) % 100 == rest) {
                return z;
            }
        }
        return -1;
    }

    private static void draws() {
        Edge p = new Edge(due, 16, () -> withChance(1, 54));
        p.taken("a rest of 54 is not below 54", 1, x -> x.minutes(1), "by the wall", -1, x -> x.childIs(0, 4));
        p.by(() -> withChance(1, 55)).taken("a rest of 54 is below 55", 0, x -> x.minutes(1),
                "in it", 0, x -> x.childIs(0, 4));
        p.taken("z after a draw", 1, x -> x.minutes(1), "z", Z1, x -> x.count(8));
        p.by(() -> withChance(1, 0)).taken("z after two draws", 2, x -> x.minutes(2), "z", Z2, x -> x.count(8));
        p.by(() -> withChance(1, 55)).taken("let in", 0, x -> x.minutes(2), "no second draw", Z1, x -> x.count(8));
        int[] rests = {0, 1, 98, 99};
        for (int rest : rests) {
            int z = seedOfRest(rest);
            int below = seedBelowZero(rest);
            p.by(() -> withChance(z, rest)).taken("a rest of " + rest + " and CHANCE the same", 1, x -> x.minutes(1));
            p.by(() -> withChance(z, rest + 1)).taken("a rest of " + rest + " and 1 more", 0, x -> x.minutes(1));
            p.by(() -> withChance(below, rest)).taken("z below 0, rest " + rest, 1, x -> x.minutes(1));
            p.by(() -> withChance(below, rest + 1)).taken("z below 0, rest " + rest + " and 1 more", 0,
                    x -> x.minutes(1));
        }
        p.by(() -> withChance(MIN, 0)).taken("CHANCE 0 never lets in", 60, x -> x.minutes(60));
        p.by(() -> withChance(MAX, 0)).taken("z wraps", 1, x -> x.minutes(1), "z", MAX * 1103515245 + 12345,
                x -> x.count(8));
    }

    /** A child of a KIND and m by two HEAPS of LEAST 1, MOST 5 and these RULES. */
    private static BreakTime two(int km, int first, int second) {
        BreakTime x = Due.children(1, km);
        x.heap(1, 5);
        x.heap(1, 5);
        x.rule(0, first);
        x.rule(1, second);
        return x;
    }

    private static void theirHeap() {
        Edge p = new Edge(due, 16, () -> two(0, 40, 40));
        p.taken("of like ones the least", 1, x -> x.minutes(1), "WATCHING", 10,
                x -> x.between(0, 0, 2) * 10 + x.between(0, 1, 2));
        p.by(() -> two(0, 40, 39)).taken("the most CHANCE", 1, x -> x.minutes(1), "WATCHING", 1,
                x -> x.between(0, 0, 2) * 10 + x.between(0, 1, 2));
        p.by(() -> two(0, 98, 51)).taken("all CHANCES are held at 0", 1, x -> x.minutes(1), "WATCHING", 10,
                x -> x.between(0, 0, 2) * 10 + x.between(0, 1, 2));
        p.by(() -> two(205, 50, 50)).taken("CHANCE as it is then: 5 by WATCHING", 1,
                x -> x.seed(seedOfRest(5)) * x.minutes(1));
        p.by(() -> two(206, 50, 50)).taken("CHANCE as it is then: 6 by WATCHING", 0,
                x -> x.seed(seedOfRest(5)) * x.minutes(1), "it is in", 0, x -> x.childIs(0, 4));
        p.by(() -> two(206, 50, 50)).taken("let in", 0, x -> x.seed(seedOfRest(5)) * x.minutes(1),
                "WATCHING of all is 0", 0, x -> x.between(0, 0, 2) + x.between(0, 1, 2));
        p.by(() -> two(206, 50, 50)).taken("let in", 0, x -> x.seed(seedOfRest(5)) * x.minutes(1),
                "ALONE is not 1 more", 0, x -> x.childIs(0, 5));
        p.by(EdgesOfMinutesTest::forOne).taken("the least number first", 1, x -> x.minutes(1), "those in it", 1,
                x -> x.heapIs(0, 3));
        p.by(EdgesOfMinutesTest::forOne).taken("the second draws by CHANCE 0, too", 1, x -> x.minutes(1), "z", Z2,
                x -> x.count(8));
        p.by(EdgesOfMinutesTest::forOne).taken("the second watches", 1, x -> x.minutes(1), "WATCHING", 1,
                x -> x.between(1, 0, 2));
    }

    /** Two by the wall, and a HEAP for one that lets in the first who comes. */
    private static BreakTime forOne() {
        BreakTime x = Due.children(2, 0);
        x.heap(1, 1);
        x.rule(0, 0);
        Due.text(x, 0, "50");
        return x;
    }

    /** Two in a HEAP of LEAST 3; a third one in a HEAP of LEAST 2; none of them comes in. */
    private static BreakTime few(int minutes) {
        BreakTime x = Due.children(3, 0);
        x.heap(3, 5);
        x.heap(2, 5);
        x.rule(0, 99);
        x.rule(1, 99);
        x.join(0, 0);
        x.join(1, 0);
        if (minutes > 0) {
            x.minutes(minutes);
        }
        x.join(2, 1);
        return x;
    }

    private static void fallingApart() {
        Edge p = new Edge(due, 16, () -> few(3));
        p.taken("the fourth MINUTE", 3, x -> x.minutes(1), "they are in it", 3, x -> x.heapIs(0, 3));
        p.taken("the fifth MINUTE", 3, x -> x.minutes(2), "all go to the wall", 3, x -> x.count(4));
        p.taken("the fifth MINUTE", 3, x -> x.minutes(2), "nobody is in it", 0, x -> x.heapIs(0, 3));
        p.taken("the fifth MINUTE", 3, x -> x.minutes(2), "WATCHING is 0", 0, x -> x.between(0, 0, 2));
        p.taken("the fifth MINUTE", 3, x -> x.minutes(2), "the other HEAP has had two", 2, x -> x.heapIs(1, 4));
        p.taken("the sixth MINUTE: alone", 5, x -> x.minutes(3), "ALONE", 1, x -> x.childIs(0, 5));
        p.taken("the other's fifth MINUTE", 9, x -> x.minutes(5), "all by the wall", 7, x -> x.count(4));
        p.taken("LEAST between two of them", 3, x -> x.join(2, 0), "four more by two", 3,
                x -> x.leave(2) + x.minutes(4) * 0 + x.heapIs(0, 3));
        p.taken("one behind the other, anew", 3, x -> x.join(2, 0), "the fifth by two", 0,
                x -> x.leave(2) + x.minutes(5) * 0 + x.heapIs(0, 3));
        p.by(() -> few(0)).taken("just LEAST", 3, x -> x.join(2, 0), "they stay", 7,
                x -> x.minutes(60) + x.heapIs(0, 3));
        p.by(() -> few(4)).taken("a third comes just ahead of the fifth", 3, x -> x.join(2, 0), "they stay", 7,
                x -> x.minutes(1) * 0 + x.heapIs(0, 3));
    }

    private static void terms() {
        Edge p = new Edge(due, 17, Edge::rich);
        p.taken("n 1, the least", 3, x -> x.terms(1), "TERMS", 3, x -> x.count(3));
        p.taken("n 20, the greatest", 22, x -> x.terms(20), "TERMS", 22, x -> x.count(3));
        p.taken("no MINUTES by it", 3, x -> x.terms(1), "MINUTES", 4, x -> x.count(2));
        int[] n = {0, -1, 21, MIN, MAX};
        for (int v : n) {
            p.refused("n " + v, Due.BEYOND, x -> x.terms(v));
        }
        p.by(BreakTime::new).taken("an empty yard", 20, x -> x.terms(20), "TERMS", 20, x -> x.count(3));
    }

    private static BreakTime late(int terms) {
        BreakTime x = Due.children(2, 0);
        x.likes(0, 1, 9);
        for (int left = terms; left > 0; left -= 20) {
            x.terms(Math.min(20, left));
        }
        return x;
    }

    private static void termsAtTheEnd() {
        Edge p = new Edge(due, 17, () -> late(979));
        p.taken("20 to just 999", 999, x -> x.terms(20), "TERMS", 999, x -> x.count(3));
        p.by(() -> late(980)).refused("20 to 1000", Due.STATE, x -> x.terms(20));
        p.by(() -> late(980)).taken("19 to just 999", 999, x -> x.terms(19));
        p.by(() -> late(998)).taken("1 to just 999", 999, x -> x.terms(1));
        p.by(() -> late(998)).refused("2 to 1000", Due.STATE, x -> x.terms(2));
        p.by(() -> late(999)).refused("1 to 1000", Due.STATE, x -> x.terms(1));
        p.by(() -> late(999)).refused("n 21: BEYOND ahead of STATE", Due.BEYOND, x -> x.terms(21));
        p.by(() -> late(999)).refused("n 0: BEYOND ahead of STATE", Due.BEYOND, x -> x.terms(0));
        p.by(() -> late(999)).refused("n MAX: BEYOND ahead of STATE", Due.BEYOND, x -> x.terms(MAX));
    }

    private static BreakTime liking(int there, int back, boolean together) {
        BreakTime x = Due.children(2, 0);
        x.heap(1, 5);
        x.likes(0, 1, there);
        x.likes(1, 0, back);
        if (together) {
            x.join(0, 0);
            x.join(1, 0);
        }
        return x;
    }

    private static void law(String what, int there, int back, boolean together, int want) {
        new Edge(due, 17, () -> liking(there, back, together)).taken(what, 1, x -> x.terms(1), "LIKES", want,
                x -> x.likes(0, 1, 0));
    }

    private static void termsMove() {
        law("o above l by 1", 10, 11, false, 11);
        law("o just l", 10, 10, false, 10);
        law("o below l by 1", 10, 9, false, 9);
        law("o 99, l 0", 0, 99, false, 1);
        law("o 0, l 99", 99, 0, false, 98);
        law("h, o just l", 10, 10, true, 11);
        law("h, o below l", 10, 0, true, 10);
        law("h, o above l", 10, 99, true, 12);
        law("held at 99 by h", 99, 99, true, 99);
        law("held at 99 by o and h", 98, 99, true, 99);
        law("both by the wall is no HEAP", 0, 0, false, 0);
        int[][] shared = {{50, 50, 1}, {49, 50, 0}, {50, 49, 0}, {99, 99, 1}};
        for (int[] v : shared) {
            new Edge(due, 17, () -> {
                BreakTime x = Due.children(3, 0);
                x.likes(0, 2, v[0]);
                x.likes(1, 2, v[1]);
                Due.text(x, 1, "f");
                return x;
            }).taken("f of " + v[0] + " and " + v[1], 1, x -> x.terms(1), "LIKES", v[2], x -> x.likes(0, 1, 0));
        }
        new Edge(due, 17, () -> {
            BreakTime x = Due.children(2, 0);
            Due.friends(x, 0, 1, 99);
            Due.text(x, 1, "f");
            return x;
        }).taken("f is of others alone", 1, x -> x.terms(1), "LIKES", 0, x -> x.likes(0, 1, 0));
        new Edge(due, 17, () -> {
            BreakTime x = Due.children(10, 0);
            for (int i = 2; i < 10; i++) {
                x.likes(0, i, 50);
                x.likes(1, i, 50);
            }
            Due.text(x, 1, "f");
            return x;
        }).taken("f of all eight others", 1, x -> x.terms(1), "LIKES", 8, x -> x.likes(0, 1, 0));
        new Edge(due, 17, () -> liking(10, 90, false)).taken("all by what they were", 1,
                x -> Due.text(x, 1, "o") * x.terms(1), "they change places", 9010,
                x -> x.likes(0, 1, 0) * 100 + x.likes(1, 0, 0));
    }

    private static void seed() {
        int[] z = {0, 1, -1, MIN, MAX, -1000001, -1000006};
        for (int v : z) {
            Edge p = new Edge(due, 18, BreakTime::new);
            p.taken("z " + v, 1, x -> x.seed(v), "it is", v, x -> x.count(8));
            p.taken("z " + v, 1, x -> x.seed(v), "it was", v, x -> x.seed(0));
        }
    }

    private static void then() {
        Edge p = new Edge(due, 22, () -> Due.children(2, 0));
        p.shows("n 0, the least", 0, x -> x.then(0, 0, 5));
        p.shows("n 1", 1, x -> x.then(1, 0, 5));
        p.shows("n 60, the greatest", 60, x -> x.then(60, 1, 5));
        Edge rich = p.by(Edge::rich);
        int[] now = {1, 7, 20, 1, -1, 4, 6, 2};
        for (int i = 0; i <= 7; i++) {
            int what = i;
            rich.shows("what " + i + " AHEAD by 0", now[i], x -> x.then(0, 0, what));
        }
        for (int i = 0; i < 4 * 8; i++) {
            int child = i / 8;
            int what = i % 8;
            rich.shows("child " + child + ", what " + what + " AHEAD by 1", passed(1).childIs(child, what),
                    x -> x.then(1, child, what));
            rich.shows("child " + child + ", what " + what + " AHEAD by 60", passed(60).childIs(child, what),
                    x -> x.then(60, child, what));
        }
        int[] n = {-1, 61, MIN, MAX};
        for (int v : n) {
            rich.refused("n " + v, Due.BEYOND, x -> x.then(v, 0, 0));
        }
        int[] child = {-1, 4, MIN, MAX};
        for (int v : child) {
            rich.refused("child " + v, Due.BEYOND, x -> x.then(0, v, 0));
        }
        int[] what = {-1, 8, MIN, MAX};
        for (int v : what) {
            rich.refused("what " + v, Due.BEYOND, x -> x.then(0, 0, v));
        }
        p.by(BreakTime::new).refused("an empty yard", Due.BEYOND, x -> x.then(0, 0, 0));
    }

    private static BreakTime passed(int minutes) {
        BreakTime x = Edge.rich();
        x.minutes(minutes);
        return x;
    }

    private static void sorrow() {
        Edge p = new Edge(due, 23, () -> Due.children(10, 0));
        p.shows("n 0, the least", 0, x -> x.sorrow(0));
        p.shows("n 60, the greatest", 600, x -> x.sorrow(60));
        p.by(BreakTime::new).shows("an empty yard", 0, x -> x.sorrow(60));
        Edge rich = p.by(Edge::rich);
        rich.shows("of those who MIND, now", 8, x -> x.sorrow(0));
        int[] n = {-1, 61, MIN, MAX};
        for (int v : n) {
            rich.refused("n " + v, Due.BEYOND, x -> x.sorrow(v));
        }
    }

    /** Child 0 by the wall; 1 in a HEAP for one; 2 in a HEAP of LEAST 3; none comes in by itself. */
    private static BreakTime words() {
        BreakTime x = Due.children(3, 0);
        x.heap(1, 1);
        x.heap(3, 5);
        x.rule(0, 99);
        x.rule(1, 99);
        x.join(1, 0);
        x.join(2, 1);
        return x;
    }

    private static void word() {
        Edge p = new Edge(due, 24, EdgesOfMinutesTest::words);
        p.shows("n 0, of several the least", 1, x -> x.word(0, 0));
        p.shows("n 5, of several the least", 1, x -> x.word(0, 5));
        p.shows("n 60, though MOST are in it", 1, x -> x.word(0, 60));
        p.by(() -> {
            BreakTime x = words();
            x.join(1, 1);
            x.join(2, 0);
            return x;
        }).shows("n 5, of several the least: as it falls apart", 1, x -> x.word(0, 5));
        p.by(() -> {
            BreakTime x = words();
            x.join(1, 1);
            x.join(2, 0);
            return x;
        }).shows("n 6, as it has fallen apart", 2, x -> x.word(0, 6));
        p.by(() -> {
            BreakTime x = words();
            x.set(0, 3, 0);
            x.set(1, 3, 0);
            x.set(2, 3, 0);
            return x;
        }).shows("nobody MINDS: the least", 1, x -> x.word(0, 60));
        p.by(() -> {
            BreakTime x = words();
            x.leave(1);
            x.join(0, 0);
            return x;
        }).shows("child 0 is the word", 0, x -> x.word(1, 60));
    }

    private static void wordErrors() {
        Edge p = new Edge(due, 24, EdgesOfMinutesTest::words);
        int[] n = {-1, 61, MIN, MAX};
        for (int v : n) {
            p.refused("n " + v, Due.BEYOND, x -> x.word(0, v));
            p.refused("n " + v + " BEYOND ahead of STATE", Due.BEYOND, x -> x.word(1, v));
            p.by(() -> Due.children(2, 0)).refused("n " + v + " BEYOND ahead of NONE", Due.BEYOND, x -> x.word(0, v));
        }
        int[] child = {-1, 3, MIN, MAX};
        for (int v : child) {
            p.refused("child " + v, Due.BEYOND, x -> x.word(v, 0));
        }
        p.refused("it is in a HEAP", Due.STATE, x -> x.word(1, 0));
        p.by(() -> {
            BreakTime x = words();
            x.leave(1);
            return x;
        }).refused("it is in a HEAP, the only one who is in one", Due.STATE, x -> x.word(2, 60));
        p.by(() -> Due.children(2, 0)).refused("nobody is in one, without HEAPS", Due.NONE, x -> x.word(0, 0));
        p.by(() -> Edge.one(0)).refused("nobody is in one", Due.NONE, x -> x.word(0, 60));
        p.by(BreakTime::new).refused("an empty yard", Due.BEYOND, x -> x.word(0, 0));
    }

    private static void teach() {
        Edge p = new Edge(due, 25, () -> two(350, 99, 99));
        p.shows("n 0: all alike, the least", 0, x -> x.teach(0, 0));
        p.by(() -> Due.children(1, 650)).shows("without HEAPS all alike, the least", 0, x -> x.teach(0, 60));
        int[] rests = {49, 50, 59, 60, 99};
        int[] kinds = {2, 5, 5, 6, 6};
        for (int i = 0; i < rests.length; i++) {
            int rest = rests[i];
            // at first WATCHED has 50 here, BENCHED 60, NUMBERED 100, all others 0
            p.by(() -> {
                BreakTime x = two(399, 99, 99);
                x.seed(seedOfRest(rest));
                return x;
            }).shows("m as it is, rest " + rest, kinds[i], x -> x.teach(0, 1));
        }
        p.by(() -> {
            BreakTime x = two(399, 99, 99);
            x.join(0, 1);
            return x;
        }).shows("one in a HEAP: all alike", 0, x -> x.teach(0, 60));
        p.by(() -> {
            BreakTime x = two(398, 50, 50);
            x.seed(seedOfRest(99));
            x.set(0, 3, 0);
            return x;
        }).shows("of one who doesn't MIND, too", 5, x -> x.teach(0, 1));
        Edge rich = p.by(Edge::rich);
        int[] n = {-1, 61, MIN, MAX};
        for (int v : n) {
            rich.refused("n " + v, Due.BEYOND, x -> x.teach(0, v));
        }
        int[] child = {-1, 4, MIN, MAX};
        for (int v : child) {
            rich.refused("child " + v, Due.BEYOND, x -> x.teach(v, 0));
        }
        p.by(BreakTime::new).refused("an empty yard", Due.BEYOND, x -> x.teach(0, 0));
    }

    private static void best() {
        Edge p = new Edge(due, 27, () -> two(0, 40, 40));
        p.shows("of like ones the least", 0, x -> x.best(0));
        p.by(() -> two(0, 40, 39)).shows("the most CHANCE by 1", 1, x -> x.best(0));
        p.by(() -> two(0, 39, 40)).shows("the most CHANCE is the first's", 0, x -> x.best(0));
        p.by(() -> two(0, 99, 50)).shows("CHANCE 0 of all", 0, x -> x.best(0));
        p.by(() -> two(0, 99, 49)).shows("CHANCE 1 of the second", 1, x -> x.best(0));
        p.by(() -> two(0, 0, 0)).taken("held at 100 both", 1, x -> Due.text(x, 0, "50+(r=1)"), "the least", 0,
                x -> x.rule(1, 1) + x.best(0));
        p.by(Edge::full).shows("one in a HEAP has a best, too", 0, x -> x.best(6));
        Edge rich = p.by(Edge::rich);
        int[] child = {-1, 4, MIN, MAX};
        for (int v : child) {
            rich.refused("child " + v, Due.BEYOND, x -> x.best(v));
        }
        p.by(() -> Due.children(1, 0)).refused("no HEAPS", Due.NONE, x -> x.best(0));
        p.by(() -> Due.children(1, 0)).refused("child 1: BEYOND ahead of NONE", Due.BEYOND, x -> x.best(1));
        p.by(BreakTime::new).refused("an empty yard: BEYOND ahead of NONE", Due.BEYOND, x -> x.best(0));
    }
}
