/** Promises 35 and 36: image, restore. */
public final class ImagesTest {
    private static final Due due = new Due();

    public static void main(String[] args) {
        keptAndRestored();
        freshOnesAfterRestore();
        notKept();
        errors();
        due.end();
    }

    private static BreakTime yard() {
        BreakTime x = Due.children(4, 103);
        x.heap(2, 3);
        x.heap(1, 2);
        x.rule(1, 77);
        x.likes(0, 1, 60);
        x.likes(1, 0, 30);
        x.join(2, 1);
        x.join(1, 0);
        x.minutes(3);
        x.terms(2);
        x.seed(99);
        Due.text(x, 0, "9");
        Due.text(x, 1, "l+2");
        Due.feed(x, "w+1");
        x.tell(2);
        x.tell(3);
        return x;
    }

    private static void changeAll(BreakTime x) {
        x.check(0);
        x.tell(9);
        x.text(0);
        x.untell(1);
        Due.feed(x, "f");
        x.seed(-5);
        for (int child = 0; child < 4; child++) {
            x.set(child, 0, 5);
            x.set(child, 1, 50);
            x.set(child, 2, 51);
            x.set(child, 3, 0);
            x.likes(child, (child + 1) % 4, 88);
        }
        x.leave(2);
        x.join(3, 0);
        x.rule(0, 1);
        x.rule(1, 2);
        x.minutes(9);
        x.terms(3);
        x.child(699, 99, 0);
        x.heap(4, 4);
    }

    private static void keptAndRestored() {
        BreakTime x = yard();
        String ahead = Due.state(x);
        due.is("image()", x.image(), 1);
        due.same("image() changes nothing", Due.state(x), ahead);
        for (int turn = 0; turn < 2; turn++) {
            changeAll(x);
            due.holds("all is changed", !Due.state(x).equals(ahead));
            due.is("restore()", x.restore(), 3);
            due.same("all is as it was", Due.state(x), ahead);
            due.is("the numbers that wait", x.count(6), 2);
            due.is("THE TAPE", x.count(5), 3);
        }
        x.terms(1);
        due.is("MOVES of the IMAGE", x.likes(2, 0, 0), 2);
        x.restore();
        x.tell(5);
        x.tell(6);
        x.leave(1);
        x.join(2, 0);
        x.join(3, 0);
        due.is("the numbers themselves", x.check(0), 3);
        due.is("THE TAPE itself", x.text(0), 1);
        due.is("image() again", x.image(), 2);
        changeAll(x);
        due.is("in place of the one ahead", x.restore(), 3);
        due.is("join() is kept", x.heapIs(0, 3), 12);
    }

    private static void freshOnesAfterRestore() {
        BreakTime x = Due.children(1, 0);
        x.image();
        x.child(107, 5, 1);
        x.heap(2, 2);
        x.rule(0, 99);
        x.likes(0, 1, 50);
        x.likes(1, 0, 50);
        x.join(1, 0);
        x.minutes(3);
        x.restore();
        due.is("no child 1", x.childIs(1, 0), Due.BEYOND);
        due.is("no HEAP 0", x.heapIs(0, 0), Due.BEYOND);
        x.child(208, 6, 0);
        x.heap(3, 4);
        due.same("as new", Due.state(x), "2 1 0 0 3 0 0 0 1 "
            + "| 0 0 10 1 -1 0 0 0 20 0 0 | 2 8 6 0 -1 0 0 0 20 0 0 / 3 4 30 0 0 ");
    }

    private static void notKept() {
        BreakTime x = Due.children(2, 101);
        x.sheet(0, 8, 1);
        x.put(0, 0, -1);
        x.voice(0, 0, 0);
        x.body(9);
        x.image();
        x.sheet(0, 8, 2);
        x.sheet(1, 16, 1);
        x.voice(0, 2, 0);
        x.body(9);
        x.image();
        x.restore();
        due.is("SHEET 0 stays", x.put(0, 1, 7), 1);
        due.is("SHEET 1 stays", x.put(1, 0, 7), 1);
        due.is("THE TRACE stays", x.body(0), 12);
        due.is("BODIES in THE TRACE", x.count(7), 4);
        due.is("told(2) stays", x.told(2), 2);
        due.is("how often stays", x.image(), 3);
    }

    private static void errors() {
        BreakTime x = Due.children(2, 0);
        x.minutes(5);
        String ahead = Due.state(x);
        due.is("restore() without", x.restore(), Due.NONE);
        due.same("after NONE", Due.state(x), ahead);
        due.same("ERRORS", Due.errors(x), "0 1 0 0 0 0 ");
        due.is("image()", x.image(), 1);
        due.is("restore()", x.restore(), 5);
    }
}
