/** Promises 30 to 34: sheet, put, move, slips, film. */
public final class SheetsTest {
    private static final Due due = new Due();

    public static void main(String[] args) {
        sheet();
        put();
        move();
        moveErrors();
        slips();
        film();
        due.end();
    }

    /** How many numbers a SHEET has; -1: it is missing. */
    private static int size(BreakTime x, int sheet) {
        for (int i = 0; i <= 25; i++) {
            int answer = x.move(sheet, i, sheet, i, 1);
            if (answer == Due.NONE) {
                return -1;
            }
            if (answer == Due.BEYOND) {
                return i;
            }
        }
        return 99;
    }

    private static void sheet() {
        BreakTime x = new BreakTime();
        for (int i = 0; i < 4; i++) {
            due.is("missing at first", size(x, i), -1);
        }
        due.is("sheet(0, 8, 24)", x.sheet(0, 8, 24), 1);
        due.is("sheet(1, 16, 0)", x.sheet(1, 16, 0), 1);
        due.is("sheet(3, 32, 1)", x.sheet(3, 32, 1), 1);
        due.is("24 numbers", size(x, 0), 24);
        due.is("0 numbers", size(x, 1), 0);
        due.is("1 number", size(x, 3), 1);
        x = new BreakTime();
        x.sheet(0, 8, 3);
        due.is("sheet(4, 8, 1)", x.sheet(4, 8, 1), Due.BEYOND);
        due.is("sheet(0, 7, 1)", x.sheet(0, 7, 1), Due.BEYOND);
        due.is("sheet(0, 64, 1)", x.sheet(0, 64, 1), Due.BEYOND);
        due.is("sheet(0, 8, 25)", x.sheet(0, 8, 25), Due.BEYOND);
        due.is("sheet(0, 8, -1)", x.sheet(0, 8, -1), Due.STATE);
        due.is("sheet(4, 8, -1): BEYOND first", x.sheet(4, 8, -1), Due.BEYOND);
        due.is("sheet(0, 9, -1): BEYOND first", x.sheet(0, 9, -1), Due.BEYOND);
        due.is("sheet(0, 8, MAX)", x.sheet(0, 8, Integer.MAX_VALUE), Due.BEYOND);
        due.is("sheet(0, 8, MIN)", x.sheet(0, 8, Integer.MIN_VALUE), Due.STATE);
        for (int v : Due.FAR) {
            due.is("sheet(far, 8, 1)", x.sheet(v, 8, 1), Due.BEYOND);
            due.is("sheet(far, 0, 1)", x.sheet(v, 0, 1), Due.BEYOND);
            due.is("sheet(0, far, 1)", x.sheet(0, v, 1), Due.BEYOND);
        }
        due.same("ERRORS", Due.errors(x), "22 0 2 0 0 0 ");
        due.is("as it was", size(x, 0), 3);
        due.is("sheet(0, 0, -5): n doesn't matter", x.sheet(0, 0, -5), 1);
        due.is("missing again", size(x, 0), -1);
        due.is("sheet(0, 0, 99): n doesn't matter", x.sheet(0, 0, 99), 1);
    }

    /** A number of a SHEET, shown by what a FILM of one child says. */
    private static boolean isMinusOne(BreakTime x, int sheet) {
        return x.film(sheet, 0) == 1;
    }

    private static void put() {
        BreakTime x = Due.children(1, 0);
        x.sheet(0, 8, 2);
        x.sheet(1, 16, 2);
        x.sheet(2, 32, 2);
        due.is("put(0, 0, 255)", x.put(0, 0, 255), 1);
        due.is("put(1, 0, 255)", x.put(1, 0, 255), 1);
        due.is("put(2, 0, 65535)", x.put(2, 0, 65535), 1);
        due.holds("the lowest 8 bits", isMinusOne(x, 0));
        due.holds("255 in 16 bits is none", !isMinusOne(x, 1));
        due.holds("65535 in 32 bits is none", !isMinusOne(x, 2));
        x.put(0, 0, 127);
        x.put(1, 0, 65535 + 65536 * 7);
        x.put(2, 0, -1);
        due.holds("127 is none", !isMinusOne(x, 0));
        due.holds("the lowest 16 bits", isMinusOne(x, 1));
        due.holds("32 bits", isMinusOne(x, 2));
        due.is("the last number", x.put(0, 1, 5), 1);
        due.is("put(0, 2, 0)", x.put(0, 2, 0), Due.BEYOND);
        due.is("put(3, 0, 0)", x.put(3, 0, 0), Due.NONE);
        due.is("put(3, -1, 0): NONE first", x.put(3, -1, 0), Due.NONE);
        for (int v : Due.FAR) {
            due.is("put(far, 0, 0)", x.put(v, 0, 0), Due.BEYOND);
            due.is("put(0, far, 0)", x.put(0, v, 0), Due.BEYOND);
        }
        due.same("ERRORS", Due.errors(x), "11 2 0 0 0 0 ");
        x.sheet(1, 16, 2);
        due.holds("all 0 anew", !isMinusOne(x, 1));
        x.sheet(2, 0, 0);
        x.sheet(2, 32, 1);
        due.holds("all 0 after it was missing", !isMinusOne(x, 2));
    }

    /** The first ten numbers of a SHEET of 24, as LIKES that an eleventh of them ends. */
    private static String numbers(BreakTime x, int sheet) {
        StringBuilder s = new StringBuilder();
        x.slips(sheet, 9);
        for (int i = 0; i < 9; i++) {
            s.append(x.likes(9, i, 0)).append(' ');
        }
        return s.toString();
    }

    private static void move() {
        BreakTime x = Due.children(10, 0);
        x.sheet(0, 8, 24);
        x.sheet(1, 8, 24);
        for (int i = 0; i < 9; i++) {
            x.put(0, i, i + 1);
        }
        due.is("move(0, 0, 0, 2, 5)", x.move(0, 0, 0, 2, 5), 5);
        due.same("upward, as they all were", numbers(x, 0), "1 2 1 2 3 4 5 8 9 ");
        due.is("move(0, 2, 0, 0, 5)", x.move(0, 2, 0, 0, 5), 5);
        due.same("downward, as they all were", numbers(x, 0), "1 2 3 4 5 4 5 8 9 ");
        due.is("move(0, 7, 1, 3, 2)", x.move(0, 7, 1, 3, 2), 2);
        due.same("to another one", numbers(x, 1), "0 0 0 8 9 0 0 0 0 ");
        due.same("from the one", numbers(x, 0), "1 2 3 4 5 4 5 8 9 ");
        due.is("all of them", x.move(0, 0, 1, 0, 24), 24);
        due.same("all", numbers(x, 1), "1 2 3 4 5 4 5 8 9 ");
        due.is("none of them", x.move(0, 24, 1, 24, 0), 0);
        due.is("none of them, at first", x.move(0, 0, 1, 0, 0), 0);
        due.is("the last one", x.move(0, 23, 1, 0, 1), 1);
        due.same("no ERRORS", Due.errors(x), "0 0 0 0 0 0 ");
    }

    private static void moveErrors() {
        BreakTime x = new BreakTime();
        x.sheet(0, 8, 5);
        x.sheet(1, 8, 3);
        x.sheet(2, 16, 5);
        due.is("move(4, ..)", x.move(4, 0, 0, 0, 0), Due.BEYOND);
        due.is("move(.., 4, ..)", x.move(0, 0, 4, 0, 0), Due.BEYOND);
        due.is("from a missing one", x.move(3, 0, 0, 0, 0), Due.NONE);
        due.is("to a missing one", x.move(0, 0, 3, 0, 0), Due.NONE);
        due.is("BEYOND ahead of NONE", x.move(3, 0, 4, 0, 0), Due.BEYOND);
        due.is("unlike bits", x.move(0, 0, 2, 0, 0), Due.KIND);
        due.is("NONE ahead of KIND and BEYOND", x.move(2, -1, 3, 0, 0), Due.NONE);
        due.is("KIND ahead of BEYOND", x.move(0, -1, 2, 0, 0), Due.KIND);
        due.is("n below 0", x.move(0, 0, 1, 0, -1), Due.BEYOND);
        due.is("i below 0", x.move(0, -1, 1, 0, 1), Due.BEYOND);
        due.is("j below 0", x.move(0, 0, 1, -1, 1), Due.BEYOND);
        due.is("not there at i", x.move(0, 3, 1, 0, 3), Due.BEYOND);
        due.is("not there at j", x.move(0, 0, 1, 1, 3), Due.BEYOND);
        due.is("i beyond, n 0", x.move(0, 6, 1, 0, 0), Due.BEYOND);
        due.is("MAX and MAX", x.move(0, Integer.MAX_VALUE, 1, Integer.MAX_VALUE, Integer.MAX_VALUE), Due.BEYOND);
        due.is("1 and MAX", x.move(0, 1, 1, 1, Integer.MAX_VALUE), Due.BEYOND);
        due.is("MIN and MIN", x.move(0, Integer.MIN_VALUE, 1, 0, Integer.MIN_VALUE), Due.BEYOND);
        for (int v : Due.FAR) {
            due.is("move(far, ..)", x.move(v, 0, 0, 0, 0), Due.BEYOND);
            due.is("move(.., far, ..)", x.move(0, 0, v, 0, 0), Due.BEYOND);
            due.is("i far", x.move(0, v, 1, 0, 1), Due.BEYOND);
            due.is("j far", x.move(0, 0, 1, v, 1), Due.BEYOND);
            due.is("n far", x.move(0, 0, 1, 0, v), Due.BEYOND);
        }
        due.same("ERRORS", Due.errors(x), "37 3 0 0 2 0 ");
    }

    private static void slips() {
        BreakTime x = Due.children(4, 0);
        x.sheet(0, 8, 6);
        int[] numbers = {99, 0, 7, 1, 50, 60};
        for (int i = 0; i < 6; i++) {
            x.put(0, i, numbers[i]);
        }
        due.is("till CHILDREN end", x.slips(0, 3), 4);
        due.is("LIKES of 3 for 0", x.likes(3, 0, 0), 99);
        due.is("LIKES of 3 for 2", x.likes(3, 2, 0), 7);
        x.put(0, 1, 100);
        x.likes(0, 2, 33);
        due.is("the first can't be 100", x.slips(0, 0), 1);
        due.is("those behind stay", x.likes(0, 2, 33), 33);
        due.is("its own is passed by", x.slips(0, 1), 4);
        x.put(0, 0, -1);
        due.is("the first can't be -1", x.slips(0, 1), 0);
        x.sheet(1, 32, 2);
        due.is("till numbers end", x.slips(1, 3), 2);
        x.sheet(2, 16, 0);
        due.is("no numbers", x.slips(2, 3), 0);
        String ahead = Due.state(x);
        due.is("slips(4, 0)", x.slips(4, 0), Due.BEYOND);
        due.is("slips(0, 4)", x.slips(0, 4), Due.BEYOND);
        due.is("a missing one", x.slips(3, 0), Due.NONE);
        due.is("BEYOND ahead of NONE", x.slips(3, 4), Due.BEYOND);
        for (int v : Due.FAR) {
            due.is("slips(far, 0)", x.slips(v, 0), Due.BEYOND);
            due.is("slips(0, far)", x.slips(0, v), Due.BEYOND);
        }
        due.same("after ERRORS", Due.state(x), ahead);
        due.same("ERRORS", Due.errors(x), "13 1 0 0 0 0 ");
    }

    private static void film() {
        BreakTime x = Due.children(3, 600);
        x.sheet(0, 8, 3);
        x.put(0, 0, -1);
        x.put(0, 1, -1);
        due.is("the third is not in 0", x.film(0, 0), 2);
        x.put(0, 2, -1);
        due.is("all by the wall", x.film(0, 0), 3);
        x.heap(1, 2);
        x.heap(1, 1);
        due.is("the first will be in", x.film(0, 1), 0);
        x.put(0, 0, 0);
        due.is("the second will be in", x.film(0, 1), 1);
        x.put(0, 1, 0);
        x.put(0, 2, 1);
        due.is("all will be in", x.film(0, 1), 3);
        due.is("all will be in, AHEAD by 60", x.film(0, 60), 3);
        due.is("not now", x.film(0, 0), 0);
        due.is("nobody moves", x.count(4), 7);
        x.sheet(0, 8, 2);
        due.is("one without a number", x.film(0, 1), 2);
        x.sheet(2, 32, 0);
        due.is("all without a number", x.film(2, 1), 0);
        x.sheet(2, 32, 24);
        x.put(2, 2, 1);
        due.is("more numbers than CHILDREN", x.film(2, 1), 3);
        x.sheet(1, 16, 9);
        due.is("of nobody", filmOfNobody(), 0);
        String ahead = Due.state(x);
        due.is("film(4, 0)", x.film(4, 0), Due.BEYOND);
        due.is("film(0, 61)", x.film(0, 61), Due.BEYOND);
        due.is("a missing one", x.film(3, 0), Due.NONE);
        due.is("BEYOND ahead of NONE", x.film(3, -1), Due.BEYOND);
        for (int v : Due.FAR) {
            due.is("film(far, 0)", x.film(v, 0), Due.BEYOND);
            due.is("film(0, far)", x.film(0, v), Due.BEYOND);
        }
        due.same("after ERRORS", Due.state(x), ahead);
        due.same("ERRORS", Due.errors(x), "13 1 0 0 0 0 ");
    }

    private static int filmOfNobody() {
        BreakTime x = new BreakTime();
        x.sheet(0, 32, 4);
        return x.film(0, 9);
    }
}
