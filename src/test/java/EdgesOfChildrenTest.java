/** The edges of promises 1 to 6, sentence by sentence. */
public final class EdgesOfChildrenTest {
    private static final Due due = new Due();
    private static final int MIN = Integer.MIN_VALUE;
    private static final int MAX = Integer.MAX_VALUE;

    public static void main(String[] args) {
        newObject();
        childTaken();
        childRefused();
        childFull();
        childAtFirst();
        childIs();
        childIsOfSlips();
        as();
        asByKinds();
        set();
        likes();
        due.end();
    }

    private static void newObject() {
        Edge p = new Edge(due, 1, BreakTime::new);
        for (int what = 0; what <= 7; what++) {
            int at = what;
            p.shows("count(" + what + ") is 0 at first", 0, x -> x.count(at));
        }
        p.shows("z is 1 at first", 1, x -> x.count(8));
        for (int k = 1; k <= 6; k++) {
            int at = k;
            p.shows("told(" + k + ") is 0 at first", 0, x -> x.told(at));
        }
        p.refused("no child 0", Due.BEYOND, x -> x.childIs(0, 0));
        p.refused("no HEAP 0", Due.BEYOND, x -> x.heapIs(0, 0));
        p.refused("nothing in THE TRACE", Due.NONE, x -> x.body(0));
        p.refused("no IMAGE", Due.NONE, x -> x.restore());
        for (int sheet = 0; sheet <= 3; sheet++) {
            int at = sheet;
            p.refused("SHEET " + sheet + " is missing", Due.NONE, x -> x.put(at, 0, 0));
        }
        p.shows("no TEXT of USE 0", 0, x -> x.untell(0));
        p.shows("no TEXT of USE 1", 0, x -> x.untell(1));
        p.taken("the first child is 0", 0, x -> x.child(0, 0, 0));
        p.taken("the first HEAP is 0", 0, x -> x.heap(1, 1));
        p.taken("the first IMAGE is 1", 1, x -> x.image());
        BreakTime other = Edge.full();
        p.shows("another object has none of its children", 0, x -> x.count(0) * other.count(0));
    }

    private static void childTaken() {
        Edge p = new Edge(due, 2, Edge::rich);
        p.taken("km 0, the least", 4, x -> x.child(0, 5, 1), "KIND 0, m 0", 0,
                x -> x.childIs(4, 0) * 100 + x.childIs(4, 1));
        p.taken("km 99: still KIND 0", 4, x -> x.child(99, 5, 1), "KIND 0, m 99", 99,
                x -> x.childIs(4, 0) * 100 + x.childIs(4, 1));
        p.taken("km 100: KIND 1", 4, x -> x.child(100, 5, 1), "KIND 1, m 0", 100,
                x -> x.childIs(4, 0) * 100 + x.childIs(4, 1));
        p.taken("km 699, the greatest", 4, x -> x.child(699, 5, 1), "KIND 6, m 99", 699,
                x -> x.childIs(4, 0) * 100 + x.childIs(4, 1));
        p.taken("AGE 0, the least", 4, x -> x.child(3, 0, 1), "AGE", 0, x -> x.childIs(4, 2));
        p.taken("AGE 99, the greatest", 4, x -> x.child(3, 99, 1), "AGE", 99, x -> x.childIs(4, 2));
        p.taken("mind 0", 4, x -> x.child(3, 9, 0), "MIND", 0, x -> x.childIs(4, 3));
        p.taken("mind 1", 4, x -> x.child(3, 9, 1), "MIND", 1, x -> x.childIs(4, 3));
    }

    private static void childRefused() {
        Edge p = new Edge(due, 2, Edge::rich);
        int[] km = {-1, 700, -100, MIN, MAX};
        for (int v : km) {
            p.refused("km " + v, Due.BEYOND, x -> x.child(v, 5, 1));
        }
        int[] age = {-1, 100, MIN, MAX};
        for (int v : age) {
            p.refused("AGE " + v, Due.BEYOND, x -> x.child(0, v, 1));
        }
        int[] mind = {-1, 2, MIN, MAX};
        for (int v : mind) {
            p.refused("mind " + v, Due.BEYOND, x -> x.child(0, 5, v));
        }
        p.by(BreakTime::new).refused("km 700 in an empty yard", Due.BEYOND, x -> x.child(700, 0, 0));
    }

    private static void childFull() {
        Edge p = new Edge(due, 2, Edge::full);
        p.refused("an eleventh", Due.FULL, x -> x.child(0, 0, 0));
        p.refused("an eleventh, the greatest of all", Due.FULL, x -> x.child(699, 99, 1));
        p.refused("km BEYOND ahead of FULL", Due.BEYOND, x -> x.child(700, 0, 0));
        p.refused("AGE BEYOND ahead of FULL", Due.BEYOND, x -> x.child(0, 100, 0));
        p.refused("mind BEYOND ahead of FULL", Due.BEYOND, x -> x.child(0, 0, 2));
        p.by(() -> Due.children(9, 0)).taken("the tenth", 9, x -> x.child(0, 0, 0), "ten", 10, x -> x.count(0));
    }

    private static void childAtFirst() {
        Edge p = new Edge(due, 2, Edge::rich);
        p.taken("by the wall, though time has passed", 4, x -> x.child(0, 0, 1), "HEAP", -1, x -> x.childIs(4, 4));
        p.taken("ALONE is 0 at first", 4, x -> x.child(0, 0, 1), "ALONE", 0, x -> x.childIs(4, 5));
        p.taken("it LIKES nobody at first", 4, x -> x.child(0, 0, 1), "SLIP", 0, x -> x.childIs(4, 6));
        p.taken("nobody LIKES it at first", 4, x -> x.child(0, 0, 1), "NAMED", 0, x -> x.childIs(4, 7));
        p.taken("WATCHING is 0 at first", 4, x -> x.child(0, 0, 1), "WATCHING", 0,
                x -> x.between(4, 0, 2) + x.between(4, 1, 2));
        for (int other = 0; other < 4; other++) {
            int at = other;
            p.taken("LIKES at first", 4, x -> x.child(0, 0, 1), "for " + other, 0, x -> x.likes(4, at, 0));
            p.taken("LIKES at first", 4, x -> x.child(0, 0, 1), "of " + other, 0, x -> x.likes(at, 4, 0));
        }
    }

    private static void childIs() {
        Edge p = new Edge(due, 3, Edge::rich);
        p.shows("the first child, the least what", 1, x -> x.childIs(0, 0));
        p.shows("the first child, the greatest what", 2, x -> x.childIs(0, 7));
        p.shows("the last child", 6, x -> x.childIs(3, 0));
        int[] child = {-1, 4, 10, MIN, MAX};
        for (int v : child) {
            p.refused("child " + v, Due.BEYOND, x -> x.childIs(v, 0));
        }
        int[] what = {-1, 8, MIN, MAX};
        for (int v : what) {
            p.refused("what " + v, Due.BEYOND, x -> x.childIs(0, v));
        }
        p.by(BreakTime::new).refused("an empty yard", Due.BEYOND, x -> x.childIs(0, 0));
        p.by(Edge::full).shows("the tenth child", 81, x -> x.childIs(9, 2));
        p.by(Edge::full).refused("an eleventh", Due.BEYOND, x -> x.childIs(10, 2));
        p.by(Edge::full).shows("the last HEAP", 4, x -> x.childIs(8, 4));
        p.by(() -> Due.children(1, 0)).taken("one who stands a MINUTE alone", 1, x -> x.minutes(1),
                "ALONE", 1, x -> x.childIs(0, 5));
    }

    /** A yard in which child 9 LIKES four others alike, and all but 0 LIKE child 0. */
    private static BreakTime liking() {
        BreakTime x = Due.children(10, 0);
        for (int i = 1; i <= 8; i += 2) {
            x.likes(9, i, 1);
        }
        for (int i = 1; i <= 8; i++) {
            x.likes(i, 0, 99);
        }
        return x;
    }

    private static void childIsOfSlips() {
        Edge p = new Edge(due, 3, EdgesOfChildrenTest::liking);
        p.shows("SLIP of one who LIKES nobody", 0, x -> x.childIs(0, 6));
        p.shows("SLIP of one who LIKES one", 1, x -> x.childIs(1, 6));
        p.shows("SLIP of four alike: the three least", 2 + 8 + 32, x -> x.childIs(9, 6));
        p.taken("LIKES 2 ahead of LIKES 1", 1, x -> x.likes(9, 7, 2), "SLIP", 2 + 8 + 128, x -> x.childIs(9, 6));
        p.taken("LIKES 0 is not on a SLIP", 1, x -> x.likes(9, 1, 0), "SLIP", 8 + 32 + 128, x -> x.childIs(9, 6));
        p.taken("LIKES 1 is on a SLIP of three", 0, x -> x.likes(9, 0, 1), "SLIP", 1 + 2 + 8, x -> x.childIs(9, 6));
        p.shows("NAMED by nobody", 0, x -> x.childIs(9, 7));
        p.shows("NAMED by one whose fourth it is", 0, x -> x.childIs(7, 7));
        p.shows("NAMED by one whose third it is", 1, x -> x.childIs(5, 7));
        p.shows("NAMED by eight", 8, x -> x.childIs(0, 7));
        p.taken("NAMED by all others", 0, x -> x.likes(9, 0, 5), "NAMED", 9, x -> x.childIs(0, 7));
    }

    private static void as() {
        Edge p = new Edge(due, 4, Edge::rich);
        p.shows("the first child, the least kind", 7, x -> x.as(0, 0));
        p.shows("the last child, the greatest kind", 4, x -> x.as(3, 6));
        int[] child = {-1, 4, MIN, MAX};
        for (int v : child) {
            p.refused("child " + v, Due.BEYOND, x -> x.as(v, 0));
        }
        int[] kind = {-1, 7, MIN, MAX};
        for (int v : kind) {
            p.refused("kind " + v, Due.BEYOND, x -> x.as(0, v));
        }
        p.refused("not of that KIND", Due.KIND, x -> x.as(0, 6));
        p.by(BreakTime::new).refused("an empty yard", Due.BEYOND, x -> x.as(0, 0));
        p.by(() -> Due.children(1, 100)).shows("m 0", 0, x -> x.as(0, 1));
        p.by(() -> Due.children(1, 199)).shows("m 99", 99, x -> x.as(0, 1));
    }

    private static void asByKinds() {
        // a row a KIND: those KINDS it is of
        String[] of = {"0", "01", "02", "03", "014", "025", "06"};
        for (int own = 0; own <= 6; own++) {
            int km = own * 100 + 42;
            Edge p = new Edge(due, 4, () -> Due.children(1, km));
            for (int kind = 0; kind <= 6; kind++) {
                int asked = kind;
                if (of[own].indexOf('0' + kind) >= 0) {
                    p.shows("a " + own + " as a " + kind, 42, x -> x.as(0, asked));
                } else {
                    p.refused("a " + own + " as a " + kind, Due.KIND, x -> x.as(0, asked));
                }
            }
        }
    }

    private static void set() {
        Edge p = new Edge(due, 5, Edge::rich);
        String[] names = {"KIND", "m", "AGE", "MIND"};
        int[] was = {1, 7, 20, 1};
        int[] most = {6, 99, 99, 1};
        for (int i = 0; i <= 3; i++) {
            int what = i;
            p.taken(names[i] + " 0, the least", was[i], x -> x.set(0, what, 0), "it is", 0, x -> x.childIs(0, what));
            p.taken(names[i] + ", the greatest", was[i], x -> x.set(0, what, most[what]), "it is", most[i],
                    x -> x.childIs(0, what));
            p.taken(names[i] + ", what it is", was[i], x -> x.set(0, what, was[what]), "it is", was[i],
                    x -> x.childIs(0, what));
            int[] beyond = {-1, most[i] + 1, MIN, MAX};
            for (int v : beyond) {
                p.refused(names[i] + " " + v, Due.BEYOND, x -> x.set(0, what, v));
            }
        }
        int[] what = {-1, 4, 7, MIN, MAX};
        for (int v : what) {
            p.refused("what " + v, Due.BEYOND, x -> x.set(0, v, 0));
        }
        int[] child = {-1, 4, MIN, MAX};
        for (int v : child) {
            p.refused("child " + v, Due.BEYOND, x -> x.set(v, 1, 0));
        }
        p.taken("the last child", 4, x -> x.set(3, 1, 5), "it is", 5, x -> x.childIs(3, 1));
        p.taken("m stays with another KIND", 1, x -> x.set(0, 0, 6), "m", 7, x -> x.childIs(0, 1));
        p.taken("KIND stays with another m", 7, x -> x.set(0, 1, 99), "KIND", 1, x -> x.childIs(0, 0));
        p.by(BreakTime::new).refused("an empty yard", Due.BEYOND, x -> x.set(0, 0, 0));
    }

    private static void likes() {
        Edge p = new Edge(due, 6, Edge::rich);
        p.taken("LIKES 0, the least", 58, x -> x.likes(0, 1, 0), "they are", 0, x -> x.likes(0, 1, 5));
        p.taken("LIKES 99, the greatest", 0, x -> x.likes(2, 3, 99), "they are", 99, x -> x.likes(2, 3, 5));
        p.taken("of the first for the last", 0, x -> x.likes(0, 3, 7), "not back", 0, x -> x.likes(3, 0, 5));
        p.taken("of the last for the first", 0, x -> x.likes(3, 0, 7), "not back", 0, x -> x.likes(0, 3, 5));
        int[] likes = {-1, 100, MIN, MAX};
        for (int v : likes) {
            p.refused("LIKES " + v, Due.BEYOND, x -> x.likes(0, 1, v));
        }
        int[] child = {-1, 4, MIN, MAX};
        for (int v : child) {
            p.refused("one " + v, Due.BEYOND, x -> x.likes(v, 0, 5));
            p.refused("other " + v, Due.BEYOND, x -> x.likes(0, v, 5));
            p.refused("both " + v, Due.BEYOND, x -> x.likes(v, v, 5));
        }
        for (int i = 0; i <= 3; i++) {
            int self = i;
            p.refused("of oneself, " + i, Due.BEYOND, x -> x.likes(self, self, 5));
            p.refused("of oneself, 0, " + i, Due.BEYOND, x -> x.likes(self, self, 0));
        }
        p.by(BreakTime::new).refused("an empty yard", Due.BEYOND, x -> x.likes(0, 1, 5));
        p.by(Edge::full).taken("the tenth for the first", 0, x -> x.likes(9, 0, 99));
    }
}
