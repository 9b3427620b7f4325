/** The edges of promises 30 to 34, sentence by sentence. */
public final class EdgesOfSheetsTest {
    private static final Due due = new Due();
    private static final int MIN = Integer.MIN_VALUE;
    private static final int MAX = Integer.MAX_VALUE;

    public static void main(String[] args) {
        sheet();
        sheetErrors();
        sheetMissing();
        put();
        putBits();
        move();
        moveErrors();
        moveOrder();
        slips();
        slipsStop();
        slipsErrors();
        film();
        filmErrors();
        due.end();
    }

    private static BreakTime laid(int sheet, int bits, int n) {
        BreakTime x = Due.children(3, 0);
        x.sheet(sheet, bits, n);
        return x;
    }

    private static void sheet() {
        Edge p = new Edge(due, 30, Edge::rich);
        int[] bits = {8, 16, 32};
        for (int b : bits) {
            for (int sheet = 0; sheet <= 3; sheet += 3) {
                int at = sheet;
                String what = "SHEET " + sheet + " of " + b + " bits, ";
                p.taken(what + "n 0, the least", 1, x -> x.sheet(at, b, 0), "no number 0", Due.BEYOND,
                        x -> x.put(at, 0, 0));
                p.taken(what + "n 24, the greatest", 1, x -> x.sheet(at, b, 24), "number 23", 1,
                        x -> x.put(at, 23, 0));
                p.taken(what + "n 24, the greatest", 1, x -> x.sheet(at, b, 24), "no number 24", Due.BEYOND,
                        x -> x.put(at, 24, 0));
                p.taken(what + "n 1", 1, x -> x.sheet(at, b, 1), "no number 1", Due.BEYOND, x -> x.put(at, 1, 0));
            }
        }
        p.taken("all 0, though it had others", 1, x -> x.sheet(0, 8, 2), "LIKES by it", 0,
                x -> x.slips(0, 3) * 0 + x.likes(3, 0, 0) + x.likes(3, 1, 0));
        p.taken("longer, all 0", 1, x -> x.sheet(1, 16, 9), "LIKES by it", 0,
                x -> x.slips(1, 3) * 0 + x.likes(3, 0, 0) + x.likes(3, 1, 0) + x.likes(3, 2, 0));
        p.taken("another SHEET stays", 1, x -> x.sheet(1, 16, 9), "LIKES by it", 31,
                x -> x.slips(0, 3) * 0 + x.likes(3, 0, 0));
    }

    private static void sheetErrors() {
        Edge p = new Edge(due, 30, Edge::rich);
        int[] sheet = {-1, 4, MIN, MAX};
        for (int v : sheet) {
            p.refused("SHEET " + v, Due.BEYOND, x -> x.sheet(v, 8, 1));
            p.refused("SHEET " + v + ", to be missing", Due.BEYOND, x -> x.sheet(v, 0, 1));
            p.refused("SHEET " + v + ": BEYOND ahead of STATE", Due.BEYOND, x -> x.sheet(v, 8, -1));
        }
        int[] bits = {-1, 1, 7, 9, 15, 17, 24, 31, 33, 64, -8, MIN, MAX};
        for (int v : bits) {
            p.refused("bits " + v, Due.BEYOND, x -> x.sheet(0, v, 1));
            p.refused("bits " + v + ": BEYOND ahead of STATE", Due.BEYOND, x -> x.sheet(0, v, -1));
        }
        int[] below = {-1, -24, MIN};
        for (int v : below) {
            p.refused("n " + v, Due.STATE, x -> x.sheet(0, 8, v));
            p.refused("n " + v + " of 16 bits", Due.STATE, x -> x.sheet(1, 16, v));
            p.refused("n " + v + " of 32 bits, of a missing one", Due.STATE, x -> x.sheet(2, 32, v));
        }
        int[] above = {25, 1000, MAX};
        for (int v : above) {
            p.refused("n " + v, Due.BEYOND, x -> x.sheet(0, 8, v));
            p.refused("n " + v + " of 32 bits, of a missing one", Due.BEYOND, x -> x.sheet(2, 32, v));
        }
    }

    private static void sheetMissing() {
        Edge p = new Edge(due, 30, Edge::rich);
        int[] n = {0, 1, 24, 25, -1, MIN, MAX};
        for (int v : n) {
            p.taken("bits 0, n " + v + " doesn't matter", 1, x -> x.sheet(0, 0, v), "missing", Due.NONE,
                    x -> x.put(0, 0, 0));
        }
        p.taken("one missing already", 1, x -> x.sheet(2, 0, 5), "missing", Due.NONE, x -> x.put(2, 0, 0));
        p.taken("missing, then there again", 1, x -> x.sheet(0, 0, 0) * x.sheet(0, 8, 2), "all 0", 0,
                x -> x.slips(0, 3) * 0 + x.likes(3, 0, 0));
    }

    private static void put() {
        Edge p = new Edge(due, 31, Edge::rich);
        p.taken("the first number", 1, x -> x.put(1, 0, 77), "LIKES by it", 77,
                x -> x.slips(1, 3) * 0 + x.likes(3, 0, 0));
        p.taken("the last number", 1, x -> x.put(1, 2, 77), "LIKES by it", 77,
                x -> x.slips(1, 3) * 0 + x.likes(3, 2, 0));
        int[] sheet = {-1, 4, MIN, MAX};
        for (int v : sheet) {
            p.refused("SHEET " + v, Due.BEYOND, x -> x.put(v, 0, 1));
        }
        p.refused("a missing one", Due.NONE, x -> x.put(2, 0, 1));
        int[] i = {-1, 3, 24, MIN, MAX};
        for (int v : i) {
            p.refused("number " + v + " of three", Due.BEYOND, x -> x.put(1, v, 1));
            p.refused("number " + v + " of a missing one: NONE ahead of BEYOND", Due.NONE, x -> x.put(2, v, 1));
        }
        p.by(() -> laid(2, 8, 24)).taken("number 23 of 24", 1, x -> x.put(2, 23, 1));
        p.by(() -> laid(2, 8, 24)).refused("number 24 of 24", Due.BEYOND, x -> x.put(2, 24, 1));
        p.by(() -> laid(2, 8, 0)).refused("number 0 of none", Due.BEYOND, x -> x.put(2, 0, 1));
    }

    /** What a number of so many bits becomes: shown by LIKES, if it can be; -1 by the wall; else -2. */
    private static int becomes(int bits, int v) {
        BreakTime x = laid(0, bits, 3);
        x.put(0, 0, v);
        x.put(0, 1, -1);
        x.put(0, 2, -1);
        if (x.film(0, 0) == 3) {
            return -1;
        }
        return x.slips(0, 2) > 0 ? x.likes(2, 0, 0) : -2;
    }

    private static void putBits() {
        int[][] want = {
            {8, 0, 0}, {8, 99, 99}, {8, 100, -2}, {8, 127, -2}, {8, 128, -2}, {8, 255, -1}, {8, 256, 0}, {8, 257, 1},
            {8, -1, -1}, {8, -256, 0}, {8, -255, 1}, {8, MAX, -1}, {8, MIN, 0},
            {16, 99, 99}, {16, 255, -2}, {16, 256, -2}, {16, 65535, -1}, {16, 65536, 0}, {16, 65537, 1}, {16, -1, -1},
            {16, -65536, 0}, {16, MAX, -1}, {16, MIN, 0}, {16, 32767, -2}, {16, 32768, -2},
            {32, 99, 99}, {32, 255, -2}, {32, 65535, -2}, {32, 65536, -2}, {32, -1, -1}, {32, MAX, -2}, {32, MIN, -2}
        };
        for (int[] v : want) {
            due.is("promise 31: " + v[1] + " in " + v[0] + " bits", becomes(v[0], v[1]), v[2]);
        }
    }

    /** SHEETS 0 and 1 of ten numbers of 8 bits, 1 .. 10 and 11 .. 20. */
    private static BreakTime counted() {
        BreakTime x = Due.children(10, 0);
        x.sheet(0, 8, 10);
        x.sheet(1, 8, 10);
        for (int i = 0; i < 10; i++) {
            x.put(0, i, i + 1);
            x.put(1, i, i + 11);
        }
        return x;
    }

    private static String numbers(BreakTime x, int sheet) {
        StringBuilder s = new StringBuilder();
        x.slips(sheet, 9);
        for (int i = 0; i < 9; i++) {
            s.append(x.likes(9, i, 0)).append(' ');
        }
        x.slips(sheet, 0);
        return s.append(x.likes(0, 9, 0)).toString();
    }

    private static void moved(int i, int other, int j, int n, String from, String to) {
        BreakTime x = counted();
        String what = "promise 32: move(0, " + i + ", " + other + ", " + j + ", " + n + ")";
        due.is(what, x.move(0, i, other, j, n), n);
        due.same(what + "; SHEET 0", numbers(x, 0), from);
        due.same(what + "; SHEET 1", numbers(x, 1), to);
        due.same(what + "; ERRORS", Due.errors(x), "0 0 0 0 0 0 ");
    }

    private static void move() {
        String ten = "1 2 3 4 5 6 7 8 9 10";
        String twenty = "11 12 13 14 15 16 17 18 19 20";
        moved(0, 1, 0, 0, ten, twenty);
        moved(10, 1, 10, 0, ten, twenty);
        moved(10, 0, 0, 0, ten, twenty);
        moved(0, 1, 0, 10, ten, ten);
        moved(0, 0, 0, 10, ten, twenty);
        moved(9, 1, 0, 1, ten, "10 12 13 14 15 16 17 18 19 20");
        moved(0, 1, 9, 1, ten, "11 12 13 14 15 16 17 18 19 1");
        moved(4, 1, 0, 6, ten, "5 6 7 8 9 10 17 18 19 20");
        moved(0, 1, 4, 6, ten, "11 12 13 14 1 2 3 4 5 6");
        moved(0, 0, 1, 9, "1 1 2 3 4 5 6 7 8 9", twenty);
        moved(1, 0, 0, 9, "2 3 4 5 6 7 8 9 10 10", twenty);
        moved(0, 0, 2, 5, "1 2 1 2 3 4 5 8 9 10", twenty);
        moved(2, 0, 0, 5, "3 4 5 6 7 6 7 8 9 10", twenty);
        moved(3, 0, 3, 5, ten, twenty);
    }

    private static void moveErrors() {
        Edge p = new Edge(due, 32, EdgesOfSheetsTest::counted);
        p.refused("n -1", Due.BEYOND, x -> x.move(0, 0, 1, 0, -1));
        p.refused("i -1", Due.BEYOND, x -> x.move(0, -1, 1, 0, 1));
        p.refused("j -1", Due.BEYOND, x -> x.move(0, 0, 1, -1, 1));
        p.refused("i -1 of none", Due.BEYOND, x -> x.move(0, -1, 1, 0, 0));
        p.refused("j -1 of none", Due.BEYOND, x -> x.move(0, 0, 1, -1, 0));
        p.refused("n 11 of ten", Due.BEYOND, x -> x.move(0, 0, 1, 0, 11));
        p.refused("10 from 1 on", Due.BEYOND, x -> x.move(0, 1, 1, 0, 10));
        p.refused("10 to 1 on", Due.BEYOND, x -> x.move(0, 0, 1, 1, 10));
        p.refused("1 from 10 on", Due.BEYOND, x -> x.move(0, 10, 1, 0, 1));
        p.refused("1 to 10 on", Due.BEYOND, x -> x.move(0, 0, 1, 10, 1));
        p.refused("none from 11 on", Due.BEYOND, x -> x.move(0, 11, 1, 0, 0));
        p.refused("none to 11 on", Due.BEYOND, x -> x.move(0, 0, 1, 11, 0));
        int[] far = {MIN, MIN + 1, -1000, 1000, MAX - 1, MAX};
        for (int v : far) {
            p.refused("n " + v, Due.BEYOND, x -> x.move(0, 0, 1, 0, v));
            p.refused("n " + v + " from 5 to 5", Due.BEYOND, x -> x.move(0, 5, 1, 5, v));
            p.refused("i " + v, Due.BEYOND, x -> x.move(0, v, 1, 0, 1));
            p.refused("j " + v, Due.BEYOND, x -> x.move(0, 0, 1, v, 1));
            p.refused("all " + v, Due.BEYOND, x -> x.move(0, v, 1, v, v));
            p.refused("i and n " + v, Due.BEYOND, x -> x.move(0, v, 1, 0, v));
        }
        p.by(() -> laid(0, 8, 0)).shows("none of an empty one", 0, x -> x.move(0, 0, 0, 0, 0));
        p.by(() -> laid(0, 8, 0)).refused("one of an empty one", Due.BEYOND, x -> x.move(0, 0, 0, 0, 1));
    }

    private static void moveOrder() {
        Edge p = new Edge(due, 32, Edge::rich);
        int[] sheet = {-1, 4, MIN, MAX};
        for (int v : sheet) {
            p.refused("SHEET " + v, Due.BEYOND, x -> x.move(v, 0, 0, 0, 1));
            p.refused("other " + v, Due.BEYOND, x -> x.move(0, 0, v, 0, 1));
            p.refused("other " + v + ": BEYOND ahead of NONE", Due.BEYOND, x -> x.move(2, 0, v, 0, 1));
            p.refused("SHEET " + v + ": BEYOND ahead of NONE", Due.BEYOND, x -> x.move(v, 0, 2, 0, 1));
        }
        p.refused("the one is missing", Due.NONE, x -> x.move(2, 0, 0, 0, 1));
        p.refused("the other one is missing", Due.NONE, x -> x.move(0, 0, 2, 0, 1));
        p.refused("both are missing", Due.NONE, x -> x.move(2, 0, 2, 0, 0));
        p.refused("NONE ahead of BEYOND of n", Due.NONE, x -> x.move(2, 0, 0, 0, -1));
        p.refused("NONE ahead of BEYOND of i", Due.NONE, x -> x.move(0, -1, 2, 0, 1));
        p.refused("8 and 16 bits", Due.KIND, x -> x.move(0, 0, 1, 0, 1));
        p.refused("16 and 8 bits", Due.KIND, x -> x.move(1, 0, 0, 0, 1));
        p.refused("16 and 32 bits", Due.KIND, x -> x.move(1, 0, 3, 0, 1));
        p.refused("8 and 32 bits, of none", Due.KIND, x -> x.move(0, 0, 3, 0, 0));
        p.refused("KIND ahead of BEYOND of n", Due.KIND, x -> x.move(0, 0, 1, 0, -1));
        p.refused("KIND ahead of BEYOND of i", Due.KIND, x -> x.move(0, 9, 1, 0, 1));
        p.refused("KIND ahead of BEYOND of j", Due.KIND, x -> x.move(0, 0, 1, -1, 1));
    }

    /** Four children; SHEET 0 of n numbers of 16 bits: 10, 20, 30, .. */
    private static BreakTime tens(int n) {
        BreakTime x = Due.children(4, 0);
        x.sheet(0, 16, n);
        for (int i = 0; i < n; i++) {
            x.put(0, i, 10 * i + 10);
        }
        return x;
    }

    private static void slips() {
        Edge p = new Edge(due, 33, () -> tens(4));
        for (int child = 0; child < 4; child++) {
            int one = child;
            int other = (child + 1) % 4;
            p.taken("just CHILDREN, child " + child, 4, x -> x.slips(0, one), "LIKES", 10 * other + 10,
                    x -> x.likes(one, other, 0));
            p.taken("just CHILDREN, child " + child, 4, x -> x.slips(0, one), "LIKES of others stay", 0,
                    x -> x.likes(other, one, 0));
        }
        p.by(() -> tens(5)).taken("more numbers than CHILDREN", 4, x -> x.slips(0, 1));
        p.by(() -> tens(24)).taken("24 numbers, some can't be LIKES", 4, x -> x.slips(0, 1));
        p.by(() -> tens(3)).taken("fewer numbers than CHILDREN", 3, x -> x.slips(0, 1), "the last one's LIKES stay", 0,
                x -> x.likes(1, 3, 0));
        p.by(() -> tens(0)).shows("no numbers", 0, x -> x.slips(0, 1));
        p.by(() -> tens(1)).shows("its own number alone", 1, x -> x.slips(0, 0));
        p.by(() -> tens(1)).taken("no number of its own", 1, x -> x.slips(0, 1));
        p.by(() -> laid(1, 32, 24)).taken("all 0", 3, x -> x.slips(1, 0));
        p.by(() -> {
            BreakTime x = Due.children(1, 0);
            x.sheet(0, 8, 3);
            x.put(0, 0, -1);
            return x;
        }).shows("one child alone, its own number", 1, x -> x.slips(0, 0));
    }

    private static void slipsStop() {
        Edge p = new Edge(due, 33, () -> tens(4));
        int[] can = {0, 1, 98, 99};
        for (int v : can) {
            p.taken("LIKES " + v, 4, x -> x.put(0, 2, v) * x.slips(0, 0), "they are", v, x -> x.likes(0, 2, 0));
        }
        int[] never = {-1, 100, -32768, 32767, 255};
        for (int v : never) {
            p.taken(v + " can't be LIKES", 2, x -> x.put(0, 2, v) * x.slips(0, 0), "those ahead are read", 20,
                    x -> x.likes(0, 1, 0));
            p.taken(v + " can't be LIKES", 2, x -> x.put(0, 2, v) * x.slips(0, 0), "it stays", 0,
                    x -> x.likes(0, 2, 0));
            p.taken(v + " can't be LIKES", 2, x -> x.put(0, 2, v) * x.slips(0, 0), "those behind stay", 0,
                    x -> x.likes(0, 3, 0));
            p.taken(v + " is its own, passed by", 4, x -> x.put(0, 2, v) * x.slips(0, 2), "those behind are read", 40,
                    x -> x.likes(2, 3, 0));
            p.taken(v + " is the first", 0, x -> x.put(0, 0, v) * x.slips(0, 1));
            p.taken(v + " is the first, its own", 4, x -> x.put(0, 0, v) * x.slips(0, 0));
            p.taken(v + " is the last", 3, x -> x.put(0, 3, v) * x.slips(0, 0));
            p.taken(v + " is the last, its own", 4, x -> x.put(0, 3, v) * x.slips(0, 3));
        }
    }

    private static void slipsErrors() {
        Edge p = new Edge(due, 33, Edge::rich);
        int[] sheet = {-1, 4, MIN, MAX};
        for (int v : sheet) {
            p.refused("SHEET " + v, Due.BEYOND, x -> x.slips(v, 0));
        }
        int[] child = {-1, 4, 10, MIN, MAX};
        for (int v : child) {
            p.refused("child " + v, Due.BEYOND, x -> x.slips(0, v));
            p.refused("child " + v + ": BEYOND ahead of NONE", Due.BEYOND, x -> x.slips(2, v));
        }
        p.refused("a missing one", Due.NONE, x -> x.slips(2, 0));
        p.by(BreakTime::new).refused("an empty yard", Due.BEYOND, x -> x.slips(0, 0));
    }

    /** Three children by the wall, and SHEET 0 of n numbers, all -1. */
    private static BreakTime walls(int n) {
        BreakTime x = laid(0, 8, n);
        for (int i = 0; i < n; i++) {
            x.put(0, i, -1);
        }
        return x;
    }

    private static void film() {
        Edge p = new Edge(due, 34, () -> walls(3));
        p.shows("n 0, the least: all are so", 3, x -> x.film(0, 0));
        p.shows("n 60, the greatest: all are so", 3, x -> x.film(0, 60));
        for (int i = 0; i < 3; i++) {
            int child = i;
            p.taken("child " + i + "'s isn't so", i, x -> x.put(0, child, 0) * x.film(0, 0));
            p.taken("child " + i + "'s isn't so, far", i, x -> x.put(0, child, -2) * x.film(0, 0));
        }
        p.by(() -> walls(2)).shows("the last without a number", 2, x -> x.film(0, 0));
        p.by(() -> walls(0)).shows("none has a number", 0, x -> x.film(0, 0));
        p.by(() -> walls(4)).shows("more numbers than CHILDREN", 3, x -> x.film(0, 0));
        p.by(() -> walls(24)).taken("a number too many doesn't matter", 3, x -> x.put(0, 3, 5) * x.film(0, 0));
        p.by(() -> {
            BreakTime x = new BreakTime();
            x.sheet(0, 8, 0);
            return x;
        }).shows("an empty yard, no numbers", 0, x -> x.film(0, 0));
        p.by(() -> {
            BreakTime x = new BreakTime();
            x.sheet(0, 8, 24);
            return x;
        }).shows("an empty yard, 24 numbers", 0, x -> x.film(0, 60));
        Edge game = p.by(EdgesOfSheetsTest::falling);
        game.shows("in it for four MINUTES", 2, x -> x.film(0, 4));
        game.shows("fallen apart by the fifth", 0, x -> x.film(0, 5));
        game.shows("by the wall from then on", 2, x -> x.film(1, 5));
        game.shows("not by the wall ahead of it", 0, x -> x.film(1, 4));
        p.by(Edge::full).taken("the greatest HEAP", 9, x -> wholeFilm(x), "one more", 10,
                x -> x.put(2, 9, -1) * x.film(2, 0));
    }

    /** One in a HEAP of LEAST 2, one by the wall: SHEET 0 has them so, SHEET 1 both by the wall. */
    private static BreakTime falling() {
        BreakTime x = Due.children(2, 0);
        x.heap(2, 5);
        x.rule(0, 99);
        x.join(0, 0);
        x.sheet(0, 16, 2);
        x.put(0, 1, -1);
        x.sheet(1, 32, 2);
        x.put(1, 0, -1);
        x.put(1, 1, -1);
        return x;
    }

    /** All but the tenth child's number are so. */
    private static int wholeFilm(BreakTime x) {
        for (int i = 0; i < 9; i++) {
            x.put(2, i, x.childIs(i, 4));
        }
        return x.film(2, 0);
    }

    private static void filmErrors() {
        Edge p = new Edge(due, 34, Edge::rich);
        int[] sheet = {-1, 4, MIN, MAX};
        for (int v : sheet) {
            p.refused("SHEET " + v, Due.BEYOND, x -> x.film(v, 0));
        }
        int[] n = {-1, 61, MIN, MAX};
        for (int v : n) {
            p.refused("n " + v, Due.BEYOND, x -> x.film(0, v));
            p.refused("n " + v + ": BEYOND ahead of NONE", Due.BEYOND, x -> x.film(2, v));
        }
        p.refused("a missing one", Due.NONE, x -> x.film(2, 0));
        p.refused("a missing one, n 60", Due.NONE, x -> x.film(2, 60));
        p.by(BreakTime::new).refused("an empty yard", Due.NONE, x -> x.film(0, 0));
    }
}
