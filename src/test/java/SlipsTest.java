import java.util.Random;

/** Promises 19 to 21 and 26: both, ring, net, classes. */
public final class SlipsTest {
    private static final Due due = new Due();

    public static void main(String[] args) {
        slipsAndNamed();
        both();
        ring();
        net();
        classes();
        classesByTrying();
        errors();
        due.end();
    }

    private static void slipsAndNamed() {
        BreakTime x = Due.children(6, 0);
        due.is("nobody LIKED", x.childIs(5, 6), 0);
        for (int i = 0; i < 5; i++) {
            x.likes(5, i, 7);
        }
        due.is("of like ones the least", x.childIs(5, 6), 7);
        x.likes(5, 4, 8);
        due.is("the most first", x.childIs(5, 6), 19);
        x.likes(5, 0, 1);
        due.is("less is out", x.childIs(5, 6), 22);
        x.likes(5, 1, 0);
        x.likes(5, 2, 0);
        x.likes(5, 3, 0);
        due.is("1 is enough, 0 is not", x.childIs(5, 6), 17);
        x.likes(3, 0, 4);
        due.is("NAMED", x.childIs(0, 7), 2);
        due.is("NAMED by nobody", x.childIs(1, 7), 0);
    }

    private static BreakTime yard() {
        BreakTime x = Due.children(7, 0);
        Due.friends(x, 1, 2, 40);
        Due.friends(x, 2, 4, 30);
        Due.friends(x, 4, 6, 20);
        x.likes(0, 1, 99);
        x.likes(3, 1, 99);
        return x;
    }

    private static void both() {
        BreakTime x = yard();
        int[] want = {0, 4, 18, 0, 68, 0, 16};
        for (int i = 0; i < 7; i++) {
            due.is("both(" + i + ")", x.both(i), want[i]);
        }
        x.likes(2, 3, 50);
        x.likes(2, 5, 50);
        x.likes(2, 6, 50);
        due.is("off the SLIP of 2", x.both(1), 0);
    }

    private static void ring() {
        BreakTime x = yard();
        int[] want = {1, 86, 86, 8, 86, 32, 86};
        for (int i = 0; i < 7; i++) {
            due.is("ring(" + i + ")", x.ring(i), want[i]);
        }
        BreakTime chain = Due.children(10, 0);
        // a chain whose numbers jump, so that it is not found in one go by numbers
        int[] order = {9, 0, 8, 1, 7, 2, 6, 3, 5, 4};
        for (int i = 0; i < 9; i++) {
            Due.friends(chain, order[i], order[i + 1], 50);
        }
        for (int i = 0; i < 10; i++) {
            due.is("the long RING of " + i, chain.ring(i), 1023);
        }
        due.is("one RING", chain.net(0), 1);
        due.is("its pairs", chain.net(1), 9);
    }

    private static void net() {
        BreakTime none = new BreakTime();
        for (int what = 0; what <= 3; what++) {
            due.is("net(" + what + ") of nobody", none.net(what), 0);
        }
        BreakTime x = yard();
        due.is("RINGS", x.net(0), 4);
        due.is("pairs", x.net(1), 3);
        due.is("the greatest NAMED", x.net(2), 3);
        due.is("LEFT OUT", x.net(3), 41);
        x.set(3, 3, 0);
        due.is("LEFT OUT, but for one who doesn't MIND", x.net(3), 33);
        x.likes(3, 5, 1);
        due.is("LEFT OUT, but for one named", x.net(3), 1);
        x = Due.children(3, 0);
        x.likes(0, 1, 1);
        due.is("LEFT OUT, but for one named by 0", x.net(3), 5);
        x.likes(1, 0, 1);
        x.likes(2, 0, 1);
        due.is("0 is the greatest NAMED", x.net(2), 2);
    }

    private static void classes() {
        BreakTime x = Due.children(2, 0);
        Due.friends(x, 0, 1, 5);
        due.is("two are parted", x.classes(0), 2);
        due.is("two have nobody", x.classes(1), 2);
        x.set(0, 3, 0);
        due.is("one MINDS", x.classes(1), 1);
        x = Due.children(3, 0);
        due.is("of several the least", x.classes(0), 2);
        due.is("nobody is BOTH", x.classes(1), 3);
        Due.friends(x, 0, 1, 5);
        due.is("0 and 1 together", x.classes(0), 4);
        due.is("2 has nobody", x.classes(1), 1);
        x = Due.children(4, 0);
        Due.friends(x, 0, 2, 5);
        Due.friends(x, 1, 3, 5);
        due.is("two pairs", x.classes(0), 10);
        due.is("all have somebody", x.classes(1), 0);
        x = Due.children(4, 0);
        Due.friends(x, 0, 1, 5);
        Due.friends(x, 1, 2, 5);
        due.is("no fewer than the half", x.classes(0), 6);
        due.is("no fewer than the half: two", x.classes(1), 2);
        x = Due.children(5, 0);
        Due.friends(x, 0, 1, 5);
        Due.friends(x, 1, 2, 5);
        Due.friends(x, 3, 4, 5);
        due.is("the half is cut", x.classes(0), 24);
        due.is("the half is cut: all", x.classes(1), 0);
        x = Due.children(5, 0);
        Due.friends(x, 0, 4, 5);
        Due.friends(x, 1, 2, 5);
        Due.friends(x, 2, 3, 5);
        due.is("the second with more", x.classes(0), 14);
        x = Due.children(4, 0);
        x.set(0, 3, 0);
        Due.friends(x, 1, 2, 5);
        Due.friends(x, 2, 3, 5);
        due.is("the first with no fewer than the half", x.classes(0), 6);
        due.is("the first with one who has nobody", x.classes(1), 1);
    }

    private static int lonely(BreakTime x, int n, int set) {
        int lonely = 0;
        for (int i = 0; i < n; i++) {
            boolean has = false;
            for (int other = 0; other < n; other++) {
                has |= (x.both(i) >> other & 1) == 1 && (set >> i & 1) == (set >> other & 1);
            }
            lonely += !has && x.childIs(i, 3) == 1 ? 1 : 0;
        }
        return lonely;
    }

    private static void classesByTrying() {
        Random random = new Random(5);
        for (int run = 0; run < 40; run++) {
            int n = 2 + random.nextInt(9);
            BreakTime x = new BreakTime();
            for (int i = 0; i < n; i++) {
                x.child(0, 0, random.nextInt(4) == 0 ? 0 : 1);
            }
            for (int i = 0; i < 3 * n; i++) {
                int one = random.nextInt(n);
                int other = random.nextInt(n);
                if (one != other) {
                    Due.friends(x, one, other, random.nextInt(100));
                }
            }
            int best = -1;
            int least = 100;
            for (int set = 0; set < 1 << n; set++) {
                int second = Integer.bitCount(set);
                boolean fits = set % 2 == 0 && second >= n / 2 && n - second >= n / 2;
                if (fits && lonely(x, n, set) < least) {
                    best = set;
                    least = lonely(x, n, set);
                }
            }
            due.is("classes(0) of " + n, x.classes(0), best);
            due.is("classes(1) of " + n, x.classes(1), least);
        }
    }

    private static void errors() {
        BreakTime x = new BreakTime();
        due.is("classes(0) of nobody", x.classes(0), Due.NONE);
        due.is("both(0) of nobody", x.both(0), Due.BEYOND);
        due.is("ring(0) of nobody", x.ring(0), Due.BEYOND);
        x.child(0, 0, 1);
        due.is("classes(1) of one", x.classes(1), Due.NONE);
        due.is("classes(2): BEYOND ahead of NONE", x.classes(2), Due.BEYOND);
        due.is("net(4)", x.net(4), Due.BEYOND);
        due.is("both(1)", x.both(1), Due.BEYOND);
        due.is("ring(1)", x.ring(1), Due.BEYOND);
        for (int v : Due.FAR) {
            due.is("both(far)", x.both(v), Due.BEYOND);
            due.is("ring(far)", x.ring(v), Due.BEYOND);
            due.is("net(far)", x.net(v), Due.BEYOND);
            due.is("classes(far)", x.classes(v), Due.BEYOND);
        }
        due.same("ERRORS", Due.errors(x), "26 2 0 0 0 0 ");
    }
}
