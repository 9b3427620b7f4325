/** The edges of promises 7 to 12 and of CHANCE, sentence by sentence. */
public final class EdgesOfHeapsTest {
    private static final Due due = new Due();
    private static final int MIN = Integer.MIN_VALUE;
    private static final int MAX = Integer.MAX_VALUE;

    public static void main(String[] args) {
        heap();
        heapFull();
        heapIs();
        heapIsMinutes();
        rule();
        join();
        joinWatching();
        leave();
        between();
        warmth();
        watching();
        most();
        heldChance();
        chanceOfM();
        sent();
        brought();
        benched();
        numbered();
        letsIn();
        due.end();
    }

    private static void heap() {
        Edge p = new Edge(due, 7, Edge::rich);
        p.taken("LEAST 1, MOST 1, the least", 2, x -> x.heap(1, 1), "MOST", 1, x -> x.heapIs(2, 1));
        p.taken("LEAST 1, MOST 10", 2, x -> x.heap(1, 10), "LEAST", 1, x -> x.heapIs(2, 0));
        p.taken("LEAST 10, MOST 10, the greatest", 2, x -> x.heap(10, 10), "LEAST", 10, x -> x.heapIs(2, 0));
        p.taken("LEAST just MOST", 2, x -> x.heap(4, 4), "MOST", 4, x -> x.heapIs(2, 1));
        p.taken("RULE at first", 2, x -> x.heap(4, 4), "RULE", 30, x -> x.heapIs(2, 2));
        p.taken("nobody in it at first", 2, x -> x.heap(4, 4), "those in it", 0, x -> x.heapIs(2, 3));
        p.taken("no MINUTES at first", 2, x -> x.heap(4, 4), "MINUTES", 0, x -> x.heapIs(2, 4));
        p.taken("nobody has stood by it", 2, x -> x.heap(4, 4), "WATCHING", 0, x -> x.between(0, 2, 2));
        int[][] beyond = {{0, 5}, {-1, 5}, {0, 0}, {11, 11}, {1, 11}, {1, 0}, {1, -1}, {5, 4}, {10, 9}, {10, 1},
            {MIN, 5}, {1, MIN}, {MAX, 5}, {1, MAX}, {MIN, MIN}, {MAX, MAX}, {MIN, MAX}, {MAX, MIN}};
        for (int[] v : beyond) {
            p.refused("heap(" + v[0] + ", " + v[1] + ")", Due.BEYOND, x -> x.heap(v[0], v[1]));
        }
        p.by(BreakTime::new).refused("BEYOND in an empty yard", Due.BEYOND, x -> x.heap(0, 1));
    }

    private static void heapFull() {
        Edge p = new Edge(due, 7, Edge::full);
        p.refused("a sixth", Due.FULL, x -> x.heap(1, 1));
        p.refused("a sixth, the greatest", Due.FULL, x -> x.heap(10, 10));
        p.refused("LEAST BEYOND ahead of FULL", Due.BEYOND, x -> x.heap(0, 1));
        p.refused("MOST BEYOND ahead of FULL", Due.BEYOND, x -> x.heap(1, 11));
        p.refused("LEAST above MOST ahead of FULL", Due.BEYOND, x -> x.heap(2, 1));
        p.by(() -> heaps(4)).taken("the fifth", 4, x -> x.heap(1, 1), "five", 5, x -> x.count(1));
    }

    private static BreakTime heaps(int n) {
        BreakTime x = Due.children(3, 0);
        for (int i = 0; i < n; i++) {
            x.heap(1, 9);
        }
        return x;
    }

    private static void heapIs() {
        Edge p = new Edge(due, 8, Edge::rich);
        int[] want = {3, 3, 71, 2, 4};
        for (int i = 0; i <= 4; i++) {
            int what = i;
            p.shows("what " + i, want[i], x -> x.heapIs(1, what));
        }
        int[] what = {-1, 5, MIN, MAX};
        for (int v : what) {
            p.refused("what " + v, Due.BEYOND, x -> x.heapIs(0, v));
        }
        int[] heap = {-1, 2, 5, MIN, MAX};
        for (int v : heap) {
            p.refused("HEAP " + v, Due.BEYOND, x -> x.heapIs(v, 0));
        }
        p.by(BreakTime::new).refused("an empty yard", Due.BEYOND, x -> x.heapIs(0, 0));
        p.by(Edge::full).shows("the fifth", 256, x -> x.heapIs(4, 3));
        p.by(Edge::full).refused("a sixth", Due.BEYOND, x -> x.heapIs(5, 3));
        p.by(() -> heaps(1)).shows("those in an empty HEAP", 0, x -> x.heapIs(0, 3));
        p.by(EdgesOfHeapsTest::crowd).shows("all ten in one", 1023, x -> x.heapIs(0, 3));
    }

    /** Ten in a HEAP for one. */
    private static BreakTime crowd() {
        BreakTime x = Due.children(10, 0);
        x.heap(1, 1);
        for (int i = 0; i < 10; i++) {
            x.join(i, 0);
        }
        return x;
    }

    /** Children 0 .. n - 1 in a HEAP of LEAST 3 that lets in nobody else. */
    private static BreakTime few(int n, int minutes) {
        BreakTime x = Due.children(4, 0);
        x.heap(3, 5);
        x.rule(0, 99);
        for (int i = 0; i < n; i++) {
            x.join(i, 0);
        }
        if (minutes > 0) {
            x.minutes(minutes);
        }
        return x;
    }

    private static void heapIsMinutes() {
        Edge p = new Edge(due, 8, () -> few(2, 4));
        p.shows("four MINUTES with fewer than LEAST", 4, x -> x.heapIs(0, 4));
        p.by(() -> few(2, 0)).shows("no MINUTE yet", 0, x -> x.heapIs(0, 4));
        p.by(() -> few(1, 4)).shows("with one alone", 4, x -> x.heapIs(0, 4));
        p.by(() -> few(0, 4)).shows("with none", 0, x -> x.heapIs(0, 4));
        p.by(() -> few(3, 4)).shows("with just LEAST", 0, x -> x.heapIs(0, 4));
        p.by(() -> few(4, 4)).shows("with more than LEAST", 0, x -> x.heapIs(0, 4));
        p.by(() -> few(2, 5)).shows("fallen apart, anew", 0, x -> x.heapIs(0, 4));
        p.taken("one goes, one stays", 0, x -> x.leave(0), "MINUTES", 4, x -> x.heapIs(0, 4));
        p.taken("just LEAST by join()", 3, x -> x.join(2, 0), "MINUTES", 0, x -> x.heapIs(0, 4));
        p.by(() -> few(1, 4)).taken("more, but too few by join()", 2, x -> x.join(2, 0),
                "MINUTES", 4, x -> x.heapIs(0, 4));
        p.by(() -> few(1, 4)).taken("none by leave()", 0, x -> x.leave(0), "MINUTES", 0, x -> x.heapIs(0, 4));
        p.by(() -> few(3, 4)).taken("fewer than LEAST by leave()", 0, x -> x.leave(0),
                "MINUTES", 0, x -> x.heapIs(0, 4));
    }

    private static void rule() {
        Edge p = new Edge(due, 9, Edge::rich);
        p.taken("RULE 0, the least", 71, x -> x.rule(1, 0), "it is", 0, x -> x.heapIs(1, 2));
        p.taken("RULE 99, the greatest", 71, x -> x.rule(1, 99), "it is", 99, x -> x.heapIs(1, 2));
        p.taken("the first HEAP's", 99, x -> x.rule(0, 5), "the other's", 71, x -> x.heapIs(1, 2));
        int[] rule = {-1, 100, MIN, MAX};
        for (int v : rule) {
            p.refused("RULE " + v, Due.BEYOND, x -> x.rule(0, v));
        }
        int[] heap = {-1, 2, 5, MIN, MAX};
        for (int v : heap) {
            p.refused("HEAP " + v, Due.BEYOND, x -> x.rule(v, 0));
        }
        p.by(BreakTime::new).refused("an empty yard", Due.BEYOND, x -> x.rule(0, 0));
    }

    private static void join() {
        Edge p = new Edge(due, 10, Edge::rich);
        p.taken("from the wall", 3, x -> x.join(0, 0), "its HEAP", 0, x -> x.childIs(0, 4));
        p.by(() -> few(0, 0)).taken("the first in it", 1, x -> x.join(3, 0), "those in it", 8, x -> x.heapIs(0, 3));
        p.by(EdgesOfHeapsTest::nine).taken("the tenth in a HEAP for one", 10, x -> x.join(9, 0),
                "those in it", 1023, x -> x.heapIs(0, 3));
        p.taken("from another one", 3, x -> x.join(1, 0), "nobody is left in that", 0, x -> x.heapIs(1, 3));
        p.refused("it is in it", Due.STATE, x -> x.join(3, 0));
        p.refused("it is in it, alone", Due.STATE, x -> x.join(1, 1));
        p.refused("HEAP BEYOND ahead of STATE", Due.BEYOND, x -> x.join(1, 2));
        int[] child = {-1, 4, MIN, MAX};
        for (int v : child) {
            p.refused("child " + v, Due.BEYOND, x -> x.join(v, 0));
        }
        int[] heap = {-1, 2, 5, MIN, MAX};
        for (int v : heap) {
            p.refused("HEAP " + v + " for one by the wall", Due.BEYOND, x -> x.join(0, v));
        }
        p.by(BreakTime::new).refused("an empty yard", Due.BEYOND, x -> x.join(0, 0));
        p.by(() -> Due.children(1, 0)).refused("no HEAPS", Due.BEYOND, x -> x.join(0, 0));
        p.by(() -> Due.children(1, 0)).refused("no HEAPS; HEAP -1", Due.BEYOND, x -> x.join(0, -1));
    }

    private static BreakTime nine() {
        BreakTime x = crowd();
        x.leave(9);
        return x;
    }

    /** One by the wall that has stood by both HEAPS. */
    private static BreakTime watcher() {
        BreakTime x = Due.children(2, 0);
        x.heap(1, 5);
        x.heap(1, 5);
        x.rule(0, 99);
        x.rule(1, 99);
        x.minutes(3);
        x.rule(1, 49);
        x.minutes(1);
        return x;
    }

    private static void joinWatching() {
        Edge p = new Edge(due, 10, EdgesOfHeapsTest::watcher);
        p.shows("it has stood by the first", 3, x -> x.between(0, 0, 2));
        p.shows("it has stood by the second", 1, x -> x.between(0, 1, 2));
        p.taken("WATCHING of it is 0", 1, x -> x.join(0, 0), "WATCHING", 0, x -> x.between(0, 0, 2));
        p.taken("WATCHING of the other HEAP is 0", 1, x -> x.join(0, 0), "WATCHING", 0, x -> x.between(0, 1, 2));
        p.taken("another child's stays", 1, x -> x.join(0, 0), "WATCHING", 3, x -> x.between(1, 0, 2));
        p.taken("ALONE stays", 1, x -> x.join(0, 0), "ALONE", 4, x -> x.childIs(0, 5));
    }

    private static void leave() {
        Edge p = new Edge(due, 11, Edge::rich);
        p.taken("the first HEAP", 0, x -> x.leave(3), "by the wall", -1, x -> x.childIs(3, 4));
        p.taken("the last HEAP, the only one in it", 1, x -> x.leave(1), "nobody in it", 0, x -> x.heapIs(1, 3));
        p.taken("the others stay", 0, x -> x.leave(3), "those in it", 4, x -> x.heapIs(0, 3));
        p.taken("WATCHING is 0", 0, x -> x.leave(3), "WATCHING", 0, x -> x.between(3, 0, 2) + x.between(3, 1, 2));
        p.refused("by the wall", Due.STATE, x -> x.leave(0));
        int[] child = {-1, 4, 10, MIN, MAX};
        for (int v : child) {
            p.refused("child " + v, Due.BEYOND, x -> x.leave(v));
        }
        p.by(BreakTime::new).refused("an empty yard", Due.BEYOND, x -> x.leave(0));
        p.by(EdgesOfHeapsTest::crowd).taken("one of ten", 0, x -> x.leave(9), "nine", 511, x -> x.heapIs(0, 3));
        p.by(EdgesOfHeapsTest::watcher).refused("by the wall: WATCHING stays", Due.STATE, x -> x.leave(0));
    }

    private static void between() {
        Edge p = new Edge(due, 12, Edge::rich);
        p.shows("WATCHING, the greatest what", 4, x -> x.between(0, 0, 2));
        p.shows("CHANCE", 41, x -> x.between(0, 1, 1));
        p.shows("WARMTH, the least what", 70, x -> x.between(0, 1, 0));
        int[] what = {-1, 3, MIN, MAX};
        for (int v : what) {
            p.refused("what " + v, Due.BEYOND, x -> x.between(0, 0, v));
        }
        int[] child = {-1, 4, 10, MIN, MAX};
        for (int v : child) {
            p.refused("child " + v, Due.BEYOND, x -> x.between(v, 0, 0));
        }
        int[] heap = {-1, 2, 5, MIN, MAX};
        for (int v : heap) {
            p.refused("HEAP " + v, Due.BEYOND, x -> x.between(0, v, 0));
        }
        p.by(BreakTime::new).refused("an empty yard", Due.BEYOND, x -> x.between(0, 0, 0));
        p.by(() -> Due.children(1, 0)).refused("no HEAPS", Due.BEYOND, x -> x.between(0, 0, 0));
        p.by(() -> {
            BreakTime x = new BreakTime();
            x.heap(1, 1);
            return x;
        }).refused("no CHILDREN", Due.BEYOND, x -> x.between(0, 0, 0));
    }

    /** Child 0 of a KIND and m by the wall; 1 .. in a HEAP of LEAST 1, MOST 9, RULE 50. */
    private static BreakTime by(int km, int... likes) {
        BreakTime x = new BreakTime();
        x.child(km, 10, 1);
        x.heap(1, 9);
        x.rule(0, 50);
        for (int v : likes) {
            int one = x.child(0, 10, 1);
            x.likes(one, 0, v);
            x.join(one, 0);
        }
        return x;
    }

    private static void chance(int promise, String what, Edge.Make make, int want) {
        new Edge(due, promise, make).shows(what, want, x -> x.between(0, 0, 1));
    }

    private static void warmth() {
        Edge p = new Edge(due, 12, () -> by(0));
        p.shows("WARMTH without others", 0, x -> x.between(0, 0, 0));
        p.by(() -> by(0, 99)).shows("WARMTH of one, the greatest", 99, x -> x.between(0, 0, 0));
        p.by(() -> by(0, 0)).shows("WARMTH of one, the least", 0, x -> x.between(0, 0, 0));
        p.by(() -> by(0, 1, 0)).shows("WARMTH cut", 0, x -> x.between(0, 0, 0));
        p.by(() -> by(0, 99, 98)).shows("WARMTH cut from 98.5", 98, x -> x.between(0, 0, 0));
        p.by(() -> by(0, 99, 99, 99, 99, 99, 99, 99, 99, 99)).shows("WARMTH of nine", 99, x -> x.between(0, 0, 0));
        p.by(() -> by(0, 1, 2, 3, 4, 5, 6, 7, 8, 8)).shows("WARMTH of nine, cut", 4, x -> x.between(0, 0, 0));
        p.by(() -> by(0, 40)).taken("WARMTH is of the others alone", 2, x -> x.join(0, 0),
                "WARMTH", 40, x -> x.between(0, 0, 0));
        p.by(() -> by(0)).taken("WARMTH of oneself alone in it", 1, x -> x.join(0, 0),
                "WARMTH", 0, x -> x.between(0, 0, 0));
    }

    /** One who has stood by a HEAP for so many MINUTES. */
    private static BreakTime stood(int km, int minutes) {
        BreakTime x = new BreakTime();
        x.child(km / 100 * 100, 10, 1);
        x.heap(1, 9);
        Due.text(x, 0, "0-100");
        for (int left = minutes; left > 0; left -= 60) {
            x.minutes(Math.min(60, left));
        }
        x.untell(0);
        x.set(0, 1, km % 100);
        x.rule(0, 99);
        return x;
    }

    private static void watching() {
        Edge p = new Edge(due, 12, () -> stood(0, 1));
        p.shows("WATCHING 1", 1, x -> x.between(0, 0, 2));
        p.by(() -> stood(0, 98)).shows("WATCHING 98", 98, x -> x.between(0, 0, 2));
        p.by(() -> stood(0, 99)).shows("WATCHING 99, the greatest", 99, x -> x.between(0, 0, 2));
        p.by(() -> stood(0, 100)).shows("WATCHING stays 99", 99, x -> x.between(0, 0, 2));
        chance(12, "WATCHED by WATCHING 0 and m 99", () -> stood(299, 0), 0);
        chance(12, "WATCHED by WATCHING 1 and m 50", () -> stood(250, 1), 1);
        chance(12, "WATCHED by WATCHING 1 and m 49", () -> stood(249, 1), 0);
        chance(12, "WATCHED by WATCHING 99 and m 99", () -> stood(299, 99), 100);
        chance(12, "WATCHED by WATCHING 99 and m 1", () -> stood(201, 99), 50);
        chance(12, "WATCHED by WATCHING 99 and m 0", () -> stood(200, 99), 0);
        chance(12, "BENCHED by WATCHING 99 and m 1", () -> stood(501, 99), 60);
    }

    private static BreakTime crowded(int most, int inside) {
        BreakTime x = Due.children(inside + 1, 0);
        x.heap(1, most);
        for (int i = 1; i <= inside; i++) {
            x.join(i, 0);
        }
        return x;
    }

    private static void most() {
        chance(12, "one fewer than MOST in it", () -> crowded(3, 2), 20);
        chance(12, "as many as MOST in it", () -> crowded(3, 3), 0);
        chance(12, "more than MOST in it", () -> crowded(3, 4), 0);
        chance(12, "MOST 1, none in it", () -> crowded(1, 0), 20);
        chance(12, "MOST 1, one in it", () -> crowded(1, 1), 0);
        chance(12, "MOST 10, nine in it", () -> crowded(10, 9), 20);
        Edge p = new Edge(due, 12, () -> crowded(3, 3));
        for (int kind = 0; kind <= 6; kind++) {
            int of = kind;
            p.taken("KIND " + kind, 0, x -> x.set(0, 0, of), "0 by as many as MOST", 0, x -> x.between(0, 0, 1));
        }
        p.taken("LETS IN 100", 1, x -> Due.text(x, 0, "100"), "0 by as many as MOST", 0, x -> x.between(0, 0, 1));
        p.by(() -> crowded(3, 2)).taken("it is in it itself, with MOST", 3, x -> x.join(0, 0),
                "its CHANCE", 0, x -> x.between(0, 0, 1));
        p.by(() -> crowded(4, 2)).taken("it is in it itself, with one fewer", 3, x -> x.join(0, 0),
                "its CHANCE", 20, x -> x.between(0, 0, 1));
    }

    private static BreakTime ruled(int km, int rule, int... likes) {
        BreakTime x = by(km, likes);
        x.rule(0, rule);
        return x;
    }

    private static void heldChance() {
        chance(12, "WAY: RULE 50, just 0", () -> ruled(0, 50), 0);
        chance(12, "WAY: RULE 49, 1", () -> ruled(0, 49), 1);
        chance(12, "WAY: RULE 51, held at 0", () -> ruled(0, 51), 0);
        chance(12, "WAY: RULE 99, held at 0", () -> ruled(0, 99), 0);
        chance(12, "WAY: RULE 0", () -> ruled(0, 0), 50);
        chance(12, "WAY: just 100", () -> ruled(0, 0, 50), 100);
        chance(12, "WAY: 99", () -> ruled(0, 0, 49), 99);
        chance(12, "WAY: 101, held at 100", () -> ruled(0, 0, 51), 100);
        chance(12, "WAY: 149, held at 100", () -> ruled(0, 0, 99), 100);
    }

    private static void chanceOfM() {
        chance(12, "WAY doesn't look at m", () -> ruled(99, 0), 50);
        chance(12, "ASKED, m 0", () -> ruled(100, 0), 50);
        chance(12, "ASKED, m 50", () -> ruled(150, 0), 0);
        chance(12, "ASKED, m 49", () -> ruled(149, 0), 1);
        chance(12, "ASKED, m 99", () -> ruled(199, 0), 0);
        chance(12, "ASKED, m 99, WARMTH 99", () -> ruled(199, 0, 99), 50);
        chance(12, "WATCHED, m 99, never by it", () -> ruled(299, 0), 50);
        chance(12, "BROUGHT doesn't look at m", () -> ruled(399, 0), 50);
    }

    private static void sent() {
        chance(12, "SENT: half of 50", () -> ruled(400, 0), 25);
        chance(12, "SENT: half of 49, cut", () -> ruled(401, 0), 24);
        chance(12, "SENT: half of 1, cut", () -> ruled(449, 0), 0);
        chance(12, "SENT: half of 149, ahead of what is held", () -> ruled(400, 0, 99), 74);
        Edge p = new Edge(due, 12, () -> ruled(451, 0));
        p.taken("SENT: half of -1, cut toward 0", 1, x -> Due.text(x, 0, "3"), "its CHANCE", 3,
                x -> x.between(0, 0, 1));
        p.by(() -> ruled(453, 0)).taken("SENT: half of -3, cut toward 0", 1, x -> Due.text(x, 0, "3"),
                "its CHANCE", 2, x -> x.between(0, 0, 1));
        p.by(() -> ruled(400, 0)).taken("SENT: LETS IN is not halved", 1, x -> Due.text(x, 0, "10"),
                "its CHANCE", 35, x -> x.between(0, 0, 1));
    }

    private static void brought() {
        chance(12, "BROUGHT, none in it", () -> ruled(305, 40), 10);
        chance(12, "BROUGHT, LIKES 0", () -> ruled(305, 40, 0), 10);
        chance(12, "BROUGHT, LIKES 1 by 2, cut", () -> ruled(305, 50, 1), 1);
        chance(12, "BROUGHT, LIKES 3 by 2, cut", () -> ruled(305, 50, 3), 4);
        chance(12, "BROUGHT, the greatest alone", () -> ruled(305, 50, 3, 0, 9), 8);
        chance(12, "BROUGHT, LIKES 99", () -> ruled(305, 99, 99), 99);
        Edge p = new Edge(due, 12, () -> ruled(305, 99, 20, 90));
        p.taken("BROUGHT, by those in it alone", 0, x -> x.leave(2), "its CHANCE", 0, x -> x.between(0, 0, 1));
        p.by(() -> ruled(305, 50, 8)).taken("BROUGHT, in it itself: the others", 2, x -> x.join(0, 0),
                "its CHANCE", 12, x -> x.between(0, 0, 1));
    }

    private static void benched() {
        chance(12, "BENCHED, none in it", () -> ruled(505, 50), 10);
        Edge p = new Edge(due, 12, () -> ruled(505, 50, 0, 0));
        p.taken("BENCHED, LIKES one by 49", 0, x -> x.likes(0, 2, 49), "its CHANCE", 10, x -> x.between(0, 0, 1));
        p.taken("BENCHED, LIKES one by 50", 0, x -> x.likes(0, 2, 50), "its CHANCE", 0, x -> x.between(0, 0, 1));
        p.taken("BENCHED, LIKES one by 99", 0, x -> x.likes(0, 1, 99), "its CHANCE", 0, x -> x.between(0, 0, 1));
        p.taken("BENCHED, LIKES one by the wall by 99", 99, x -> x.likes(0, 1, 99) + x.leave(1) + x.likes(0, 1, 99),
                "its CHANCE", 10, x -> x.between(0, 0, 1));
        p.by(() -> ruled(505, 50, 0)).taken("BENCHED, LIKED by one by 99", 0, x -> x.likes(1, 0, 99),
                "its CHANCE", 100, x -> x.between(0, 0, 1));
        p.by(() -> ruled(505, 50)).taken("BENCHED, in it itself alone", 1, x -> x.join(0, 0),
                "its CHANCE", 10, x -> x.between(0, 0, 1));
    }

    /** A NUMBERED one with m 7 by a HEAP of LEAST 3, MOST 6 and RULE 20 with so many in it: WAY is 30. */
    private static BreakTime game(int inside) {
        BreakTime x = Due.children(inside + 1, 607);
        x.heap(3, 6);
        x.rule(0, 20);
        for (int i = 1; i <= inside; i++) {
            x.join(i, 0);
        }
        return x;
    }

    private static void numbered() {
        int[] want = {23, 23, 100, 23, 23, 100, 0, 0};
        for (int i = 0; i < want.length; i++) {
            int inside = i;
            chance(12, "NUMBERED with " + i + " in it", () -> game(inside), want[i]);
        }
        Edge p = new Edge(due, 12, () -> game(2));
        p.taken("NUMBERED: RULE doesn't matter for 100", 20, x -> x.rule(0, 99), "its CHANCE", 100,
                x -> x.between(0, 0, 1));
        p.taken("NUMBERED: 100 and LETS IN, held", 1, x -> Due.text(x, 0, "1"), "its CHANCE", 100,
                x -> x.between(0, 0, 1));
        p.taken("NUMBERED: 100 less 100 by LETS IN", 1, x -> Due.text(x, 0, "0-100"), "its CHANCE", 0,
                x -> x.between(0, 0, 1));
        p.by(() -> game(1)).taken("NUMBERED, else: below 0 is held", 20, x -> x.rule(0, 50), "its CHANCE", 0,
                x -> x.between(0, 0, 1));
        p.by(() -> crowded(1, 0)).taken("LEAST and MOST both 1, none in it", 0, x -> x.set(0, 0, 6), "its CHANCE", 100,
                x -> x.between(0, 0, 1));
    }

    private static void letsIn() {
        Edge p = new Edge(due, 12, () -> ruled(0, 50));
        String[] texts = {"0", "1", "99", "100", "101", "9999", "0-1", "0-99", "0-100", "9999*9999*9999"};
        int[] plain = {0, 1, 99, 100, 100, 100, 0, 0, 0, 0};
        for (int i = 0; i < texts.length; i++) {
            String text = texts[i];
            p.taken("LETS IN " + text + " by 0", 1, x -> Due.text(x, 0, text), "its CHANCE", plain[i],
                    x -> x.between(0, 0, 1));
        }
        // WAY is 149 ahead of LETS IN here
        int[] warm = {100, 100, 100, 100, 100, 100, 100, 50, 49, 49};
        for (int i = 0; i < texts.length; i++) {
            String text = texts[i];
            p.by(() -> ruled(0, 0, 99)).taken("LETS IN " + text + " by 149", 1, x -> Due.text(x, 0, text),
                    "its CHANCE", warm[i], x -> x.between(0, 0, 1));
        }
        // WAY is -49 ahead of LETS IN here
        int[] cold = {0, 0, 50, 51, 51, 51, 0, 0, 0, 0};
        for (int i = 0; i < texts.length; i++) {
            String text = texts[i];
            p.by(() -> ruled(0, 99)).taken("LETS IN " + text + " by -49", 1, x -> Due.text(x, 0, text),
                    "its CHANCE", cold[i], x -> x.between(0, 0, 1));
        }
        p.shows("LETS IN without a TEXT", 0, x -> x.between(0, 0, 1));
    }
}
