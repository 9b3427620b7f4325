/** The edges of promises 28 and 29, sentence by sentence. */
public final class EdgesOfVoicesTest {
    private static final Due due = new Due();
    private static final int MIN = Integer.MIN_VALUE;
    private static final int MAX = Integer.MAX_VALUE;

    private static final int LIKES = 0;
    private static final int COMES = 1;
    private static final int SHUTS = 2;
    private static final int MOVES = 3;

    public static void main(String[] args) {
        voiceErrors();
        wrapsOfWay();
        wrapsOfAskedAndSent();
        wrapsOfTheOthers();
        cutMoves();
        parted();
        partedTraces();
        body();
        traceStays();
        due.end();
    }

    private static void voiceErrors() {
        Edge p = new Edge(due, 28, Edge::rich);
        int[] child = {-1, 4, 10, MIN, MAX};
        for (int v : child) {
            p.refused("child " + v + ": THE TRACE stays", Due.BEYOND, x -> x.voice(v, 0, 5));
        }
        int[] voice = {-1, 4, MIN, MAX};
        for (int v : voice) {
            p.refused("VOICE " + v + ": THE TRACE stays", Due.BEYOND, x -> x.voice(0, v, 5));
        }
        p.by(BreakTime::new).refused("an empty yard", Due.BEYOND, x -> x.voice(0, 0, 0));
        p.by(() -> Due.children(1, 0)).refused("BEYOND ahead of PARTED", Due.BEYOND, x -> x.voice(0, 4, 0));
        p.taken("VOICE 0, the least, of the first", -1, x -> x.voice(0, LIKES, 5));
        p.taken("VOICE 3, the greatest, of the last", 5, x -> x.voice(3, MOVES, 5));
        p.by(Edge::full).taken("the tenth child", 16, x -> x.voice(9, LIKES, 7));
    }

    /** What the last of k + 1 children of a KIND and m says. */
    private static void says(int km, int k, int voice, int x, int want) {
        Edge p = new Edge(due, 28, () -> Due.children(k + 1, km));
        p.taken("KIND " + km / 100 + ", m " + km % 100 + ", k " + k + ", VOICE " + voice + " of " + x, want,
                yard -> yard.voice(k, voice, x));
    }

    private static void wrapsOfWay() {
        says(0, 0, LIKES, 0, 0);
        says(0, 9, LIKES, 0, 9);
        says(0, 0, LIKES, MAX, MAX);
        says(0, 1, LIKES, MAX, MIN);
        says(0, 9, LIKES, MAX, MIN + 8);
        says(0, 9, LIKES, MIN, MIN + 9);
        says(0, 0, LIKES, -1000001, -1000001);
        says(0, 0, COMES, MAX, -2);
        says(0, 0, COMES, MIN, 0);
        says(0, 1, COMES, 1 << 30, MIN + 2);
        says(1, 0, SHUTS, 1 << 30, MAX);
        says(99, 0, SHUTS, 0, -99);
        says(99, 0, SHUTS, MIN, -99);
    }

    private static void wrapsOfAskedAndSent() {
        says(100, 0, LIKES, 0, -6);
        says(100, 0, LIKES, MIN, MAX - 5);
        says(100, 0, LIKES, MIN + 6, MIN);
        says(101, 0, MOVES, MAX, MAX - 10);
        says(101, 0, MOVES, MIN, MAX - 9);
        says(199, 0, MOVES, 98, -10);
        says(400, 0, LIKES, 6, 0);
        says(400, 0, LIKES, MIN, MAX - 17);
        says(400, 0, LIKES, MAX, MAX - 20);
        says(405, 3, SHUTS, 6, 14);
        says(400, 1, SHUTS, 0, -29);
        says(499, 0, SHUTS, 6, -99);
    }

    private static void wrapsOfTheOthers() {
        says(200, 0, COMES, 1 << 30, MIN);
        says(200, 0, COMES, MIN, 0);
        says(200, 1, COMES, 0, -2);
        says(300, 0, SHUTS, 1, 0);
        says(300, 0, SHUTS, -1, 0);
        says(300, 0, SHUTS, -3, -2);
        says(301, 0, SHUTS, MIN, MAX);
        says(301, 0, SHUTS, MAX, MAX - 2);
        says(500, 0, COMES, MAX, 0);
        says(500, 0, COMES, -1, 0);
        says(500, 0, COMES, (1 << 30) - 1, MIN);
        says(600, 0, LIKES, MIN, 5);
        says(600, 9, LIKES, MAX, 5);
        says(699, 0, COMES, MAX, 109);
        says(600, 0, COMES, 0, 10);
        says(699, 9, SHUTS, MIN, 10);
    }

    private static void cutMoves() {
        says(1, 0, MOVES, MAX, MAX);
        says(1, 0, MOVES, MIN, MIN);
        says(0, 1, MOVES, MAX, -MAX);
        says(0, 1, MOVES, MIN, MIN);
        says(2, 0, MOVES, 7, 3);
        says(2, 0, MOVES, -7, -3);
        says(0, 2, MOVES, 7, -3);
        says(0, 2, MOVES, -7, 3);
        says(99, 0, MOVES, 98, 0);
        says(99, 0, MOVES, -98, 0);
        says(99, 0, MOVES, -99, -1);
        says(0, 9, MOVES, -81, 9);
        says(8, 9, MOVES, 5, -5);
        says(10, 9, MOVES, 5, 5);
    }

    private static void parted() {
        for (int kind = 0; kind <= 6; kind++) {
            for (int k = 0; k <= 9; k += 3) {
                int km = kind * 100 + k;
                int child = k;
                Edge p = new Edge(due, 28, () -> Due.children(child + 1, km));
                String who = "KIND " + kind + ", k and m both " + k;
                p.refusedWith(who, Due.PARTED, x -> x.voice(child, MOVES, 5), "once more", Due.PARTED,
                        x -> x.voice(child, MOVES, 0));
                p.refusedWith(who, Due.PARTED, x -> x.voice(child, MOVES, MIN), "no child has changed", km,
                        x -> x.childIs(child, 0) * 100 + x.childIs(child, 1));
                for (int voice = LIKES; voice <= SHUTS; voice++) {
                    int other = voice;
                    p.taken(who + ": VOICE " + voice + " is not parted", 0, x -> x.voice(child, other, 5) * 0);
                }
            }
        }
    }

    /** THE TRACE behind what PARTED is of the BODIES that began in it. */
    private static void partedTraces() {
        String[] want = {"13", "21 13", "13", "13", "21 13", "13", "13"};
        for (int kind = 0; kind <= 6; kind++) {
            BreakTime x = Due.children(3, kind * 100 + 2);
            x.voice(0, SHUTS, 7);
            due.is("promise 28: PARTED of KIND " + kind, x.voice(2, MOVES, 7), Due.PARTED);
            due.same("promise 29: those of KIND " + kind + " that began", trace(x), want[kind]);
        }
    }

    private static String trace(BreakTime x) {
        StringBuilder s = new StringBuilder();
        for (int i = 0; i < x.count(7); i++) {
            s.append(i > 0 ? " " : "").append(x.body(i));
        }
        return s.toString();
    }

    private static void body() {
        Edge p = new Edge(due, 29, BreakTime::new);
        p.refused("0 of none", Due.NONE, x -> x.body(0));
        p.refused("-1 of none", Due.NONE, x -> x.body(-1));
        Edge rich = p.by(Edge::rich);
        int[] want = {21, 13, 11, 20, 10};
        for (int i = 0; i < want.length; i++) {
            int at = i;
            rich.shows("the one " + i + " of five", want[i], x -> x.body(at));
        }
        int[] beyond = {-1, 5, 6, 29, 30, 31, MIN, MAX};
        for (int v : beyond) {
            rich.refused("the one " + v + " of five", Due.NONE, x -> x.body(v));
        }
        p.by(() -> Due.children(1, 0)).taken("a row of one", 7, x -> x.voice(0, LIKES, 7), "its last", 10,
                x -> x.body(0));
        p.by(() -> Due.children(1, 0)).taken("a row of one", 7, x -> x.voice(0, LIKES, 7), "none behind it", Due.NONE,
                x -> x.body(1));
        p.by(() -> Due.children(1, 400)).taken("the longest row", 42 * 2, x -> x.voice(0, SHUTS, 20), "its last", 10,
                x -> x.body(5));
        p.by(() -> Due.children(1, 400)).taken("the longest row", 42 * 2, x -> x.voice(0, SHUTS, 20), "how many", 6,
                x -> x.count(7));
    }

    private static void traceStays() {
        Edge p = new Edge(due, 29, Edge::rich);
        p.taken("a shorter one in place of a longer", 5, x -> x.voice(3, LIKES, 0), "how many", 1, x -> x.count(7));
        p.taken("a shorter one in place of a longer", 5, x -> x.voice(3, LIKES, 0), "it", 70, x -> x.body(0));
        p.refusedWith("behind a BEYOND of voice()", Due.BEYOND, x -> x.voice(4, LIKES, 0), "it stays", 21,
                x -> x.body(0));
        p.refusedWith("behind a NONE of body()", Due.NONE, x -> x.body(5), "it stays", 5, x -> x.count(7));
        p.taken("behind restore()", 2, x -> x.restore(), "it stays", 21, x -> x.body(0));
        p.taken("behind another KIND", 1, x -> x.set(0, 0, 6), "it stays", 21, x -> x.body(0));
    }
}
