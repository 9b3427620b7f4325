/** Promises 1 to 6: a new object, child, childIs, as, set, likes. */
public final class ChildrenTest {
    private static final Due due = new Due();

    public static void main(String[] args) {
        newObject();
        child();
        childIs();
        as();
        set();
        likes();
        due.end();
    }

    private static void newObject() {
        BreakTime x = new BreakTime();
        due.same("a new object", Due.state(x), "0 0 0 0 0 0 0 0 1 ");
        due.same("its ERRORS", Due.errors(x), "0 0 0 0 0 0 ");
        due.is("childIs(0, 0) of nobody", x.childIs(0, 0), Due.BEYOND);
        due.is("heapIs(0, 0) of none", x.heapIs(0, 0), Due.BEYOND);
        due.is("restore()", x.restore(), Due.NONE);
        due.is("sheet 3 is missing", x.put(3, 0, 0), Due.NONE);
        due.is("no TEXT of 0", x.untell(0), 0);
        due.is("no TEXT of 1", x.untell(1), 0);
    }

    private static void child() {
        BreakTime x = new BreakTime();
        due.is("child(0, 0, 0)", x.child(0, 0, 0), 0);
        due.is("child(699, 99, 1)", x.child(699, 99, 1), 1);
        due.is("KIND", x.childIs(1, 0), 6);
        due.is("m", x.childIs(1, 1), 99);
        due.is("AGE", x.childIs(1, 2), 99);
        due.is("MIND", x.childIs(1, 3), 1);
        due.is("MIND of 0", x.childIs(0, 3), 0);
        String ahead = Due.state(x);
        due.is("child(700, 0, 0)", x.child(700, 0, 0), Due.BEYOND);
        due.is("child(-1, 0, 0)", x.child(-1, 0, 0), Due.BEYOND);
        due.is("child(0, 100, 0)", x.child(0, 100, 0), Due.BEYOND);
        due.is("child(0, -1, 0)", x.child(0, -1, 0), Due.BEYOND);
        due.is("child(0, 0, 2)", x.child(0, 0, 2), Due.BEYOND);
        due.is("child(0, 0, -1)", x.child(0, 0, -1), Due.BEYOND);
        int beyond = 6;
        for (int v : Due.FAR) {
            due.is("child(far, 0, 0)", x.child(v, 0, 0), Due.BEYOND);
            due.is("child(0, far, 0)", x.child(0, v, 0), Due.BEYOND);
            due.is("child(0, 0, far)", x.child(0, 0, v), Due.BEYOND);
            beyond += 3;
        }
        due.same("children after BEYOND", Due.state(x), ahead);
        for (int i = 2; i < 10; i++) {
            due.is("child " + i, x.child(i, i, 0), i);
        }
        due.is("an eleventh", x.child(0, 0, 0), Due.FULL);
        due.is("an eleventh, BEYOND first", x.child(700, 0, 0), Due.BEYOND);
        due.is("count(0)", x.count(0), 10);
        due.is("all by the wall", x.count(4), 1023);
        due.same("ERRORS", Due.errors(x), (beyond + 1) + " 0 0 1 0 0 ");
    }

    private static void childIs() {
        BreakTime x = new BreakTime();
        x.child(412, 34, 1);
        x.child(0, 0, 1);
        x.child(0, 0, 0);
        x.heap(1, 3);
        int[] first = {4, 12, 34, 1, -1, 0, 0, 0};
        for (int what = 0; what <= 7; what++) {
            due.is("childIs(0, " + what + ")", x.childIs(0, what), first[what]);
        }
        x.likes(0, 2, 5);
        x.likes(0, 1, 1);
        x.likes(1, 0, 9);
        x.likes(2, 0, 9);
        x.rule(0, 99);
        x.minutes(4);
        x.join(0, 0);
        due.is("the HEAP", x.childIs(0, 4), 0);
        due.is("ALONE", x.childIs(0, 5), 4);
        due.is("SLIP", x.childIs(0, 6), 6);
        due.is("NAMED", x.childIs(0, 7), 2);
        due.is("NAMED of 1", x.childIs(1, 7), 1);
        String ahead = Due.state(x);
        due.is("childIs(0, 8)", x.childIs(0, 8), Due.BEYOND);
        due.is("childIs(3, 0)", x.childIs(3, 0), Due.BEYOND);
        for (int v : Due.FAR) {
            due.is("childIs(far, 0)", x.childIs(v, 0), Due.BEYOND);
            due.is("childIs(0, far)", x.childIs(0, v), Due.BEYOND);
        }
        due.is("told(1)", x.told(1), 12);
        due.same("after BEYOND", Due.state(x), ahead);
    }

    private static void as() {
        // a row a KIND: those KINDS it is of
        String[] of = {"0", "01", "02", "03", "014", "025", "06"};
        for (int kind = 0; kind < 7; kind++) {
            BreakTime x = new BreakTime();
            x.child(kind * 100 + 42, 1, 1);
            for (int asked = 0; asked < 7; asked++) {
                boolean is = of[kind].indexOf('0' + asked) >= 0;
                due.is("a " + kind + " as a " + asked, x.as(0, asked), is ? 42 : Due.KIND);
            }
            due.is("as(0, 7)", x.as(0, 7), Due.BEYOND);
            due.is("as(1, 0)", x.as(1, 0), Due.BEYOND);
            for (int v : Due.FAR) {
                due.is("as(far, 0)", x.as(v, 0), Due.BEYOND);
                due.is("as(0, far)", x.as(0, v), Due.BEYOND);
            }
            due.same("ERRORS", Due.errors(x), "12 0 0 0 " + (7 - of[kind].length()) + " 0 ");
        }
    }

    private static void set() {
        BreakTime x = new BreakTime();
        x.child(123, 45, 1);
        x.child(301, 2, 0);
        String second = Due.state(x).split("\\|")[2];
        int[] was = {1, 23, 45, 1};
        int[] most = {6, 99, 99, 1};
        for (int what = 0; what <= 3; what++) {
            due.is("to the greatest", x.set(0, what, most[what]), was[what]);
            due.is("to one beyond", x.set(0, what, most[what] + 1), Due.BEYOND);
            due.is("to -1", x.set(0, what, -1), Due.BEYOND);
            for (int v : Due.FAR) {
                due.is("to far", x.set(0, what, v), Due.BEYOND);
            }
            due.is("is the greatest", x.childIs(0, what), most[what]);
            due.is("to 0", x.set(0, what, 0), most[what]);
            due.is("is 0", x.childIs(0, what), 0);
        }
        due.is("set(0, 4, 0)", x.set(0, 4, 0), Due.BEYOND);
        due.is("set(0, -1, 0)", x.set(0, -1, 0), Due.BEYOND);
        due.is("set(2, 0, 0)", x.set(2, 0, 0), Due.BEYOND);
        for (int v : Due.FAR) {
            due.is("set(far, 0, 0)", x.set(v, 0, 0), Due.BEYOND);
            due.is("set(0, far, 0)", x.set(0, v, 0), Due.BEYOND);
        }
        due.is("told(1)", x.told(1), 4 * 7 + 13);
        due.same("the other child", Due.state(x).split("\\|")[2], second);
    }

    private static void likes() {
        BreakTime x = Due.children(3, 0);
        due.is("likes(0, 1, 99)", x.likes(0, 1, 99), 0);
        due.is("likes(0, 1, 7)", x.likes(0, 1, 7), 99);
        due.is("likes(0, 1, 0)", x.likes(0, 1, 0), 7);
        due.is("likes(1, 0, 5) is its own", x.likes(1, 0, 5), 0);
        due.is("likes(0, 2, 5) is its own", x.likes(0, 2, 5), 0);
        String ahead = Due.state(x);
        due.is("likes(0, 1, 100)", x.likes(0, 1, 100), Due.BEYOND);
        due.is("likes(1, 1, 5)", x.likes(1, 1, 5), Due.BEYOND);
        due.is("likes(3, 1, 5)", x.likes(3, 1, 5), Due.BEYOND);
        due.is("likes(1, 3, 5)", x.likes(1, 3, 5), Due.BEYOND);
        for (int v : Due.FAR) {
            due.is("likes(far, 0, 5)", x.likes(v, 0, 5), Due.BEYOND);
            due.is("likes(0, far, 5)", x.likes(0, v, 5), Due.BEYOND);
            due.is("likes(0, 1, far)", x.likes(0, 1, v), Due.BEYOND);
        }
        due.is("told(1)", x.told(1), 19);
        due.same("after BEYOND", Due.state(x), ahead);
    }
}
