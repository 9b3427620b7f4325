/** Promises 7 to 12: heap, heapIs, rule, join, leave, between. */
public final class HeapsTest {
    private static final Due due = new Due();

    public static void main(String[] args) {
        heap();
        heapIs();
        rule();
        join();
        leave();
        fewMinutes();
        warmth();
        chanceByKind();
        chanceByOthers();
        chanceHeld();
        watching();
        betweenErrors();
        due.end();
    }

    private static void heap() {
        BreakTime x = Due.children(1, 0);
        due.is("heap(1, 1)", x.heap(1, 1), 0);
        due.is("heap(10, 10)", x.heap(10, 10), 1);
        String ahead = Due.state(x);
        due.is("heap(0, 5)", x.heap(0, 5), Due.BEYOND);
        due.is("heap(1, 11)", x.heap(1, 11), Due.BEYOND);
        due.is("heap(11, 11)", x.heap(11, 11), Due.BEYOND);
        due.is("heap(4, 3)", x.heap(4, 3), Due.BEYOND);
        due.is("heap(1, 0)", x.heap(1, 0), Due.BEYOND);
        for (int v : Due.FAR) {
            due.is("heap(far, 5)", x.heap(v, 5), Due.BEYOND);
            due.is("heap(1, far)", x.heap(1, v), Due.BEYOND);
        }
        due.same("heaps after BEYOND", Due.state(x), ahead);
        due.is("heap(2, 7)", x.heap(2, 7), 2);
        due.is("heap(1, 10)", x.heap(1, 10), 3);
        due.is("heap(3, 3)", x.heap(3, 3), 4);
        due.is("a sixth", x.heap(3, 3), Due.FULL);
        due.is("a sixth, BEYOND first", x.heap(3, 2), Due.BEYOND);
        due.is("count(1)", x.count(1), 5);
        due.is("LEAST of 2", x.heapIs(2, 0), 2);
        due.is("MOST of 2", x.heapIs(2, 1), 7);
        due.same("ERRORS", Due.errors(x), "16 0 0 1 0 0 ");
    }

    private static void heapIs() {
        BreakTime x = Due.children(3, 0);
        x.heap(2, 4);
        int[] fresh = {2, 4, 30, 0, 0};
        for (int what = 0; what <= 4; what++) {
            due.is("heapIs(0, " + what + ")", x.heapIs(0, what), fresh[what]);
        }
        x.join(2, 0);
        x.join(0, 0);
        due.is("those in it", x.heapIs(0, 3), 5);
        due.is("heapIs(0, 5)", x.heapIs(0, 5), Due.BEYOND);
        due.is("heapIs(1, 0)", x.heapIs(1, 0), Due.BEYOND);
        for (int v : Due.FAR) {
            due.is("heapIs(far, 0)", x.heapIs(v, 0), Due.BEYOND);
            due.is("heapIs(0, far)", x.heapIs(0, v), Due.BEYOND);
        }
        due.same("ERRORS", Due.errors(x), "12 0 0 0 0 0 ");
    }

    private static void rule() {
        BreakTime x = new BreakTime();
        x.heap(2, 4);
        x.heap(2, 4);
        due.is("rule(0, 99)", x.rule(0, 99), 30);
        due.is("rule(0, 0)", x.rule(0, 0), 99);
        due.is("rule(0, 100)", x.rule(0, 100), Due.BEYOND);
        due.is("rule(2, 0)", x.rule(2, 0), Due.BEYOND);
        for (int v : Due.FAR) {
            due.is("rule(far, 0)", x.rule(v, 0), Due.BEYOND);
            due.is("rule(0, far)", x.rule(0, v), Due.BEYOND);
        }
        due.is("RULE", x.heapIs(0, 2), 0);
        due.is("RULE of the other", x.heapIs(1, 2), 30);
        due.same("ERRORS", Due.errors(x), "12 0 0 0 0 0 ");
    }

    private static void join() {
        BreakTime x = Due.children(3, 0);
        x.heap(1, 1);
        x.heap(1, 5);
        due.is("join(0, 0)", x.join(0, 0), 1);
        due.is("whatever MOST", x.join(1, 0), 2);
        due.is("from another one", x.join(1, 1), 1);
        due.is("those in 0", x.heapIs(0, 3), 1);
        due.is("those in 1", x.heapIs(1, 3), 2);
        due.is("the HEAP of 1", x.childIs(1, 4), 1);
        String ahead = Due.state(x);
        due.is("in it", x.join(1, 1), Due.STATE);
        due.is("join(3, 1)", x.join(3, 1), Due.BEYOND);
        due.is("join(1, 2)", x.join(1, 2), Due.BEYOND);
        for (int v : Due.FAR) {
            due.is("join(far, 1)", x.join(v, 1), Due.BEYOND);
            due.is("join(1, far)", x.join(1, v), Due.BEYOND);
        }
        due.same("after ERRORS", Due.state(x), ahead);
        due.same("ERRORS", Due.errors(x), "12 0 1 0 0 0 ");
    }

    private static void leave() {
        BreakTime x = Due.children(2, 0);
        x.heap(1, 5);
        x.heap(1, 5);
        x.join(1, 1);
        due.is("by the wall", x.leave(0), Due.STATE);
        due.is("leave(1)", x.leave(1), 1);
        due.is("by the wall now", x.childIs(1, 4), -1);
        due.is("nobody in it", x.heapIs(1, 3), 0);
        due.is("again", x.leave(1), Due.STATE);
        due.is("leave(2)", x.leave(2), Due.BEYOND);
        for (int v : Due.FAR) {
            due.is("leave(far)", x.leave(v), Due.BEYOND);
        }
        due.same("ERRORS", Due.errors(x), "6 0 2 0 0 0 ");
    }

    /** A HEAP of LEAST 2 that nobody can come into by himself. */
    private static BreakTime lonelyHeap() {
        BreakTime x = Due.children(3, 0);
        x.heap(2, 5);
        x.rule(0, 99);
        x.join(0, 0);
        return x;
    }

    private static void fewMinutes() {
        BreakTime x = lonelyHeap();
        x.minutes(2);
        due.is("two MINUTES too few", x.heapIs(0, 4), 2);
        x.join(1, 0);
        due.is("enough", x.heapIs(0, 4), 0);
        x.leave(1);
        due.is("0 whenever there were enough", x.heapIs(0, 4), 0);
        x.minutes(4);
        due.is("four MINUTES too few", x.heapIs(0, 4), 4);
        due.is("still in it", x.childIs(0, 4), 0);
        x.minutes(1);
        due.is("fallen apart", x.childIs(0, 4), -1);
        due.is("nobody in it", x.heapIs(0, 3), 0);
        due.is("begins anew", x.heapIs(0, 4), 0);
        due.is("no MINUTE alone yet", x.childIs(0, 5), 0);
        x.join(0, 0);
        x.minutes(3);
        x.leave(0);
        due.is("none in it", x.heapIs(0, 4), 0);
        x.join(2, 0);
        due.is("another one", x.heapIs(0, 4), 0);
        x.minutes(4);
        x.heap(1, 5);
        x.join(2, 1);
        due.is("moved to another HEAP", x.heapIs(0, 4), 0);
        x.minutes(7);
        due.is("none in it for long", x.heapIs(0, 4), 0);
        due.is("just LEAST in it for long", x.heapIs(1, 4), 0);
    }

    private static void warmth() {
        BreakTime x = Due.children(4, 0);
        x.heap(1, 9);
        due.is("without others", x.between(0, 0, 0), 0);
        x.join(0, 0);
        due.is("oneself is no other", x.between(0, 0, 0), 0);
        x.join(1, 0);
        x.join(2, 0);
        x.likes(1, 0, 10);
        x.likes(2, 0, 17);
        x.likes(3, 0, 99);
        x.likes(0, 1, 99);
        due.is("of one in it", x.between(0, 0, 0), 13);
        x.leave(0);
        due.is("of one by the wall", x.between(0, 0, 0), 13);
        x.leave(2);
        due.is("of one other", x.between(0, 0, 0), 10);
    }

    private static void chanceByKind() {
        BreakTime x = Due.children(3, 7);
        x.heap(3, 5);
        x.rule(0, 60);
        x.join(1, 0);
        x.join(2, 0);
        x.likes(1, 0, 61);
        x.likes(2, 0, 40);
        x.likes(0, 1, 49);
        int[] chances = {40, 33, 40, 70, 16, 50, 100};
        for (int kind = 0; kind < 7; kind++) {
            x.set(0, 0, kind);
            due.is("CHANCE of KIND " + kind, x.between(0, 0, 1), chances[kind]);
        }
        x.set(0, 0, 5);
        x.likes(0, 1, 50);
        due.is("BENCHED, with somebody liked", x.between(0, 0, 1), 40);
        x.set(0, 0, 6);
        x.heap(2, 3);
        x.heap(2, 4);
        x.rule(1, 60);
        x.rule(2, 60);
        due.is("NUMBERED, one would be neither", x.between(0, 1, 1), 0);
        x.join(1, 1);
        due.is("NUMBERED, LEAST", x.between(0, 1, 1), 100);
        x.join(2, 1);
        due.is("NUMBERED, MOST", x.between(0, 1, 1), 100);
        x.join(1, 2);
        x.join(2, 2);
        due.is("NUMBERED, between them", x.between(0, 2, 1), 33);
        x.set(0, 0, 3);
        due.is("BROUGHT, nobody in it", x.between(0, 1, 1), 0);
        x.rule(1, 20);
        due.is("BROUGHT, nobody in it, RULE 20", x.between(0, 1, 1), 30);
        x.set(0, 0, 5);
        due.is("BENCHED, nobody in it", x.between(0, 1, 1), 40);
    }

    /** Each one in the HEAP may be the one who counts. */
    private static void chanceByOthers() {
        for (int dear = 0; dear < 4; dear++) {
            if (dear == 2) {
                continue;
            }
            BreakTime x = Due.children(5, 300);
            x.heap(1, 9);
            x.rule(0, 50);
            x.join(dear, 0);
            x.likes(dear, 2, 61);
            x.likes(4, 2, 99);
            due.is("BROUGHT by " + dear, x.between(2, 0, 1), 91);
            x.likes(2, dear, 99);
            x.likes(2, 4, 99);
            x.set(2, 0, 5);
            due.is("BENCHED likes " + dear, x.between(2, 0, 1), 61);
            x.likes(2, dear, 0);
            due.is("BENCHED likes another by the wall", x.between(2, 0, 1), 71);
        }
    }

    private static void chanceHeld() {
        BreakTime x = Due.children(3, 0);
        x.heap(1, 1);
        x.rule(0, 99);
        due.is("below 0", x.between(0, 0, 1), 0);
        x.set(0, 0, 4);
        x.set(0, 1, 2);
        Due.text(x, 0, "26");
        due.is("half is cut toward 0", x.between(0, 0, 1), 1);
        x.set(0, 0, 0);
        x.rule(0, 0);
        Due.text(x, 0, "9999");
        due.is("above 100", x.between(0, 0, 1), 100);
        x.rule(0, 99);
        due.is("LETS IN held at 100", x.between(0, 0, 1), 51);
        x.heap(1, 3);
        x.rule(1, 0);
        x.join(1, 1);
        x.likes(1, 0, 99);
        Due.text(x, 0, "0-50");
        due.is("LETS IN ahead of what is held", x.between(0, 1, 1), 99);
        Due.text(x, 0, "0-9999");
        due.is("LETS IN held at -100", x.between(0, 1, 1), 49);
        x.join(1, 0);
        Due.text(x, 0, "100");
        due.is("as many as MOST", x.between(0, 0, 1), 0);
        x.join(2, 0);
        due.is("more than MOST", x.between(0, 0, 1), 0);
        x.set(0, 0, 6);
        due.is("more than MOST, NUMBERED", x.between(0, 0, 1), 0);
        due.is("of one in it", x.between(1, 0, 1), 0);
    }

    private static void watching() {
        BreakTime x = Due.children(2, 200);
        x.heap(1, 5);
        x.heap(1, 5);
        x.rule(0, 99);
        x.rule(1, 99);
        x.minutes(3);
        due.is("WATCHING the least of like ones", x.between(0, 0, 2), 3);
        due.is("WATCHING the other", x.between(0, 1, 2), 0);
        x.set(0, 1, 20);
        due.is("WATCHED: m times", x.between(0, 0, 1), 11);
        x.set(0, 0, 5);
        due.is("BENCHED: and 10", x.between(0, 0, 1), 21);
        x.set(0, 0, 2);
        x.set(0, 1, 0);
        x.rule(1, 98);
        x.minutes(60);
        due.is("all CHANCES are 0", x.between(0, 0, 2), 63);
        x.minutes(60);
        due.is("99 at most", x.between(0, 0, 2), 99);
        x.join(0, 1);
        due.is("0 after join", x.between(0, 0, 2), 0);
        due.is("another child's stays", x.between(1, 0, 2), 99);
        x.leave(0);
        x.minutes(1);
        due.is("anew", x.between(0, 0, 2), 1);
        x.join(0, 1);
        x.leave(0);
        due.is("0 after leave", x.between(0, 0, 2), 0);
    }

    private static void betweenErrors() {
        BreakTime x = Due.children(1, 0);
        x.heap(1, 5);
        due.is("between(0, 0, 3)", x.between(0, 0, 3), Due.BEYOND);
        due.is("between(1, 0, 0)", x.between(1, 0, 0), Due.BEYOND);
        due.is("between(0, 1, 0)", x.between(0, 1, 0), Due.BEYOND);
        for (int v : Due.FAR) {
            due.is("between(far, 0, 0)", x.between(v, 0, 0), Due.BEYOND);
            due.is("between(0, far, 0)", x.between(0, v, 0), Due.BEYOND);
            due.is("between(0, 0, far)", x.between(0, 0, v), Due.BEYOND);
        }
        due.same("ERRORS", Due.errors(x), "18 0 0 0 0 0 ");
    }
}
