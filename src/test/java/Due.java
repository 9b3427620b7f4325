/** What a test counts and says: every call whose answer is not the one that is due. */
final class Due {
    static final int BEYOND = -1000001;
    static final int NONE = -1000002;
    static final int STATE = -1000003;
    static final int FULL = -1000004;
    static final int KIND = -1000005;
    static final int PARTED = -1000006;

    /** Numbers that no place, count or bound takes. */
    static final int[] FAR = {Integer.MIN_VALUE, -1000, -1, 1000, Integer.MAX_VALUE};

    private int wrong;

    void is(String call, long got, long want) {
        if (got != want) {
            wrong++;
            System.out.println(call + " answered " + got + ", due is " + want);
        }
    }

    void same(String call, String got, String want) {
        if (!got.equals(want)) {
            wrong++;
            System.out.println(call + ": " + got + ", due is " + want);
        }
    }

    void holds(String what, boolean held) {
        if (!held) {
            wrong++;
            System.out.println(what + " does not hold");
        }
    }

    void end() {
        if (wrong != 0) {
            System.exit(1);
        }
    }

    /** So many children of a KIND of WAY and m, of AGE 10, who MIND. */
    static BreakTime children(int n, int km) {
        BreakTime x = new BreakTime();
        for (int i = 0; i < n; i++) {
            x.child(km, 10, 1);
        }
        return x;
    }

    /** Two like each other by so much. */
    static void friends(BreakTime x, int one, int other, int v) {
        x.likes(one, other, v);
        x.likes(other, one, v);
    }

    static void feed(BreakTime x, String text) {
        for (int from = 0; from < text.length(); from += 8) {
            int to = Math.min(text.length(), from + 8);
            long word = 0;
            for (int i = to - 1; i >= from; i--) {
                word = word << 8 | text.charAt(i);
            }
            x.feed(word, to - from);
        }
    }

    static int text(BreakTime x, int use, String text) {
        feed(x, text);
        return x.text(use);
    }

    /** All that queries show, but what told() tells; none of them answers an ERROR. */
    static String state(BreakTime x) {
        StringBuilder s = new StringBuilder();
        for (int what = 0; what <= 8; what++) {
            s.append(x.count(what)).append(' ');
        }
        int children = x.count(0);
        int heaps = x.count(1);
        for (int child = 0; child < children; child++) {
            s.append("| ");
            for (int what = 0; what <= 7; what++) {
                s.append(x.childIs(child, what)).append(' ');
            }
            for (int heap = 0; heap < heaps; heap++) {
                s.append(x.between(child, heap, 1)).append(' ').append(x.between(child, heap, 2)).append(' ');
            }
            for (int other = 0; other < children; other++) {
                if (other != child) {
                    int v = x.likes(child, other, 0);
                    x.likes(child, other, v);
                    s.append(v).append(' ');
                }
            }
        }
        for (int heap = 0; heap < heaps; heap++) {
            s.append("/ ");
            for (int what = 0; what <= 4; what++) {
                s.append(x.heapIs(heap, what)).append(' ');
            }
        }
        for (int i = 0; i < x.count(7); i++) {
            s.append(x.body(i)).append(' ');
        }
        return s.toString();
    }

    /** How many ERRORS of each sort have been answered. */
    static String errors(BreakTime x) {
        StringBuilder s = new StringBuilder();
        for (int k = 1; k <= 6; k++) {
            s.append(x.told(k)).append(' ');
        }
        return s.toString();
    }
}
