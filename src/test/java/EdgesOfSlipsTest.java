/** The edges of promises 19 to 21 and 26, sentence by sentence. */
public final class EdgesOfSlipsTest {
    private static final Due due = new Due();
    private static final int MIN = Integer.MIN_VALUE;
    private static final int MAX = Integer.MAX_VALUE;

    public static void main(String[] args) {
        both();
        ring();
        net();
        netErrors();
        classes();
        classesBySize();
        classesErrors();
        due.end();
    }

    private static BreakTime alone() {
        return Due.children(4, 0);
    }

    private static BreakTime pair(int there, int back) {
        BreakTime x = alone();
        x.likes(0, 3, there);
        x.likes(3, 0, back);
        return x;
    }

    /** All LIKE each other alike: on a SLIP are the three least others. */
    private static BreakTime alike(int n) {
        BreakTime x = Due.children(n, 0);
        for (int i = 0; i < n; i++) {
            for (int j = 0; j < n; j++) {
                if (i != j) {
                    x.likes(i, j, 50);
                }
            }
        }
        return x;
    }

    /** A chain of all ten. */
    private static BreakTime chain() {
        BreakTime x = Due.children(10, 0);
        for (int i = 0; i < 9; i++) {
            Due.friends(x, i, i + 1, 1);
        }
        return x;
    }

    private static void both() {
        Edge p = new Edge(due, 19, EdgesOfSlipsTest::alone);
        p.shows("nobody", 0, x -> x.both(0));
        p.by(() -> pair(1, 1)).shows("LIKES 1 both", 8, x -> x.both(0));
        p.by(() -> pair(1, 1)).shows("LIKES 1 both, the last", 1, x -> x.both(3));
        p.by(() -> pair(1, 0)).shows("LIKES 0 back", 0, x -> x.both(0));
        p.by(() -> pair(0, 99)).shows("LIKES 0 there", 0, x -> x.both(0));
        p.by(() -> alike(4)).shows("three on a SLIP of three", 14, x -> x.both(0));
        p.by(() -> alike(5)).shows("the fourth LIKED is not on it", 14, x -> x.both(0));
        p.by(() -> alike(5)).shows("its SLIP has 0, 1, 2, they name each other", 0, x -> x.both(4));
        p.by(() -> alike(10)).shows("the tenth", 0, x -> x.both(9));
        Edge rich = p.by(Edge::rich);
        int[] child = {-1, 4, 10, MIN, MAX};
        for (int v : child) {
            rich.refused("child " + v, Due.BEYOND, x -> x.both(v));
        }
        p.by(BreakTime::new).refused("an empty yard", Due.BEYOND, x -> x.both(0));
    }

    private static void ring() {
        Edge p = new Edge(due, 20, EdgesOfSlipsTest::alone);
        p.shows("itself alone", 1, x -> x.ring(0));
        p.shows("itself alone, the last", 8, x -> x.ring(3));
        p.by(() -> pair(1, 1)).shows("two", 9, x -> x.ring(3));
        p.by(() -> pair(99, 0)).shows("one who names alone", 1, x -> x.ring(0));
        p.by(EdgesOfSlipsTest::chain).shows("all ten, from the first", 1023, x -> x.ring(0));
        p.by(EdgesOfSlipsTest::chain).shows("all ten, from the last", 1023, x -> x.ring(9));
        p.by(EdgesOfSlipsTest::chain).taken("cut in the middle", 1, x -> x.likes(4, 5, 0), "the lower", 31,
                x -> x.ring(0));
        p.by(EdgesOfSlipsTest::chain).taken("cut in the middle", 1, x -> x.likes(5, 4, 0), "the upper", 1023 - 31,
                x -> x.ring(9));
        Edge rich = p.by(Edge::rich);
        int[] child = {-1, 4, 10, MIN, MAX};
        for (int v : child) {
            rich.refused("child " + v, Due.BEYOND, x -> x.ring(v));
        }
        p.by(BreakTime::new).refused("an empty yard", Due.BEYOND, x -> x.ring(0));
    }

    private static void net(String what, Edge.Make make, int rings, int pairs, int named, int out) {
        Edge p = new Edge(due, 21, make);
        p.shows(what + ": RINGS", rings, x -> x.net(0));
        p.shows(what + ": how many are BOTH", pairs, x -> x.net(1));
        p.shows(what + ": the greatest NAMED", named, x -> x.net(2));
        p.shows(what + ": LEFT OUT", out, x -> x.net(3));
    }

    private static void net() {
        net("an empty yard", BreakTime::new, 0, 0, 0, 0);
        net("one child", () -> Due.children(1, 0), 1, 0, 0, 1);
        net("four alone", EdgesOfSlipsTest::alone, 4, 0, 0, 15);
        net("a pair", () -> pair(1, 1), 3, 1, 1, 6);
        net("one who names alone", () -> pair(1, 0), 4, 0, 1, 7);
        net("four alike", () -> alike(4), 1, 6, 3, 0);
        net("ten alike", () -> alike(10), 7, 6, 9, 1023 - 15);
        net("a chain of ten", EdgesOfSlipsTest::chain, 1, 9, 2, 0);
        net("ten alone", () -> Due.children(10, 0), 10, 0, 0, 1023);
        net("nobody MINDS", () -> {
            BreakTime x = alone();
            for (int i = 0; i < 4; i++) {
                x.set(i, 3, 0);
            }
            return x;
        }, 4, 0, 0, 0);
        net("one MINDS", () -> {
            BreakTime x = alone();
            for (int i = 0; i < 3; i++) {
                x.set(i, 3, 0);
            }
            return x;
        }, 4, 0, 0, 8);
    }

    private static void netErrors() {
        Edge p = new Edge(due, 21, Edge::rich);
        int[] what = {-1, 4, MIN, MAX};
        for (int v : what) {
            p.refused("what " + v, Due.BEYOND, x -> x.net(v));
            p.by(BreakTime::new).refused("what " + v + " in an empty yard", Due.BEYOND, x -> x.net(v));
        }
    }

    private static void classes(String what, Edge.Make make, int set, int nobody) {
        Edge p = new Edge(due, 26, make);
        p.shows(what + ": the set", set, x -> x.classes(0));
        p.shows(what + ": how many have nobody", nobody, x -> x.classes(1));
    }

    private static void classes() {
        classes("two", () -> Due.children(2, 0), 2, 2);
        classes("two who are BOTH", () -> alike(2), 2, 2);
        classes("nobody MINDS", () -> {
            BreakTime x = alike(2);
            x.set(0, 3, 0);
            x.set(1, 3, 0);
            return x;
        }, 2, 0);
        classes("only child 0 MINDS", () -> {
            BreakTime x = Due.children(4, 0);
            for (int i = 1; i < 4; i++) {
                x.set(i, 3, 0);
            }
            Due.friends(x, 0, 1, 9);
            return x;
        }, 12, 0);
        classes("the one who doesn't MIND may have nobody", () -> {
            BreakTime x = Due.children(3, 0);
            x.set(2, 3, 0);
            Due.friends(x, 0, 1, 9);
            return x;
        }, 4, 0);
        classes("BOTH with one of the other CLASS alone is nobody", () -> {
            BreakTime x = Due.children(4, 0);
            for (int i = 1; i < 4; i++) {
                Due.friends(x, 0, i, 9);
            }
            return x;
        }, 6, 2);
    }

    private static void classesBySize() {
        // the least set of those with the half, cut, where all are alike alone
        int[] least = {0, 0, 2, 2, 6, 6, 14, 14, 30, 30, 62};
        for (int n = 2; n <= 10; n++) {
            int size = n;
            classes(n + " alone", () -> Due.children(size, 0), least[n], n);
        }
        classes("three, two of them in the second", () -> {
            BreakTime x = Due.children(3, 0);
            Due.friends(x, 1, 2, 9);
            return x;
        }, 6, 1);
        classes("three, two of them in the first", () -> {
            BreakTime x = Due.children(3, 0);
            Due.friends(x, 0, 2, 9);
            return x;
        }, 2, 1);
        classes("ten in two fives", () -> {
            BreakTime x = Due.children(10, 0);
            for (int i = 0; i < 8; i++) {
                Due.friends(x, i, i + 2, 9);
            }
            return x;
        }, 2 + 8 + 16 + 64 + 256, 0);
        classes("a chain of ten", EdgesOfSlipsTest::chain, 4 + 8 + 16 + 32 + 64, 0);
    }

    private static void classesErrors() {
        Edge p = new Edge(due, 26, BreakTime::new);
        int[] what = {-1, 2, MIN, MAX};
        for (int v : what) {
            p.refused("what " + v + ": BEYOND ahead of NONE", Due.BEYOND, x -> x.classes(v));
            p.by(Edge::rich).refused("what " + v, Due.BEYOND, x -> x.classes(v));
        }
        for (int v = 0; v <= 1; v++) {
            int asked = v;
            p.refused("nobody, what " + v, Due.NONE, x -> x.classes(asked));
            p.by(() -> Due.children(1, 0)).refused("one alone, what " + v, Due.NONE, x -> x.classes(asked));
        }
    }
}
