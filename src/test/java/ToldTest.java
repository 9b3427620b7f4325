/** Promises 37 to 40: tell, check, count, told. */
public final class ToldTest {
    private static final Due due = new Due();

    public static void main(String[] args) {
        tell();
        check();
        count();
        told();
        due.end();
    }

    private static void tell() {
        BreakTime x = new BreakTime();
        for (int i = 1; i <= 24; i++) {
            due.is("tell " + i, x.tell(i % 2 == 0 ? Integer.MIN_VALUE : -1000001), i);
        }
        due.is("a 25th", x.tell(0), Due.FULL);
        due.is("24 wait", x.count(6), 24);
        due.same("ERRORS", Due.errors(x), "0 0 0 1 0 0 ");
    }

    private static int check(BreakTime x, int heap, int... numbers) {
        for (int v : numbers) {
            x.tell(v);
        }
        int answer = x.check(heap);
        due.is("none wait then", x.count(6), 0);
        return answer;
    }

    private static void check() {
        BreakTime x = Due.children(10, 0);
        x.heap(1, 9);
        x.heap(1, 9);
        due.is("nobody in it, none wait", check(x, 0), 0);
        due.is("nobody in it, one waits", check(x, 0, 0), 1);
        x.join(7, 0);
        x.join(2, 0);
        x.join(5, 0);
        x.join(9, 1);
        due.is("those in it", check(x, 0, 2, 5, 7), 0);
        due.is("not the least first", check(x, 0, 5, 2, 7), 1);
        due.is("the second isn't so", check(x, 0, 2, 6, 7), 2);
        due.is("the third isn't so", check(x, 0, 2, 5, 9), 3);
        due.is("one lacks", check(x, 0, 2, 5), 3);
        due.is("all lack", check(x, 0), 1);
        due.is("one too many", check(x, 0, 2, 5, 7, 9), 4);
        due.is("one twice", check(x, 0, 2, 2, 5, 7), 2);
        due.is("far", check(x, 1, Integer.MIN_VALUE), 1);
        due.is("another HEAP", check(x, 1, 9), 0);
        x.join(0, 1);
        due.is("child 0 is in it, too", check(x, 1, 0, 9), 0);
        due.is("child 0 lacks", check(x, 1, 9), 1);
        due.is("check(2)", check(x, 2, 1, 2), Due.BEYOND);
        for (int v : Due.FAR) {
            due.is("check(far)", check(x, v, 1, 2), Due.BEYOND);
        }
        due.is("those who stand in it stay", x.heapIs(0, 3), 164);
        due.same("ERRORS", Due.errors(x), "6 0 0 0 0 0 ");
    }

    private static void count() {
        BreakTime x = Due.children(3, 102);
        x.heap(1, 5);
        x.heap(2, 5);
        x.rule(0, 99);
        x.rule(1, 99);
        x.join(1, 0);
        x.minutes(4);
        x.terms(2);
        Due.feed(x, "abcde");
        x.tell(1);
        x.voice(0, 2, 0);
        x.seed(-1000001);
        int[] want = {3, 2, 4, 2, 5, 5, 1, 4, -1000001};
        for (int what = 0; what <= 8; what++) {
            due.is("count(" + what + ")", x.count(what), want[what]);
        }
        due.is("count(9)", x.count(9), Due.BEYOND);
        for (int v : Due.FAR) {
            due.is("count(far)", x.count(v), Due.BEYOND);
        }
        due.same("ERRORS", Due.errors(x), "6 0 0 0 0 0 ");
    }

    private static void told() {
        BreakTime x = Due.children(1, 0);
        x.childIs(5, 5);
        x.classes(0);
        x.restore();
        x.leave(0);
        x.leave(0);
        x.leave(0);
        for (int i = 0; i < 6; i++) {
            x.heap(1, 1);
        }
        x.as(0, 4);
        x.as(0, 5);
        x.voice(0, 3, 1);
        int[] want = {1, 2, 3, 1, 2, 1};
        for (int k = 1; k <= 6; k++) {
            due.is("told(" + k + ")", x.told(k), want[k - 1]);
        }
        due.is("told(0)", x.told(0), Due.BEYOND);
        due.is("told(7)", x.told(7), Due.BEYOND);
        due.is("counted, too", x.told(1), 3);
        for (int v : Due.FAR) {
            due.is("told(far)", x.told(v), Due.BEYOND);
        }
        due.same("ERRORS", Due.errors(x), "8 2 3 1 2 1 ");
    }
}
