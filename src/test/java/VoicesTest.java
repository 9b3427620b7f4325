/** Promises 28 and 29: voice, body. */
public final class VoicesTest {
    private static final Due due = new Due();

    public static void main(String[] args) {
        voices();
        wraps();
        parted();
        errors();
        due.end();
    }

    private static String trace(BreakTime x) {
        StringBuilder s = new StringBuilder();
        for (int i = 0; i < x.count(7); i++) {
            s.append(i > 0 ? " " : "").append(x.body(i));
        }
        return s.toString();
    }

    /** Child 2 of a KIND, with m 5, says what it says about 7. */
    private static void voice(int kind, int voice, int want, String trace) {
        BreakTime x = Due.children(3, kind * 100 + 5);
        due.is("VOICE " + voice + " of KIND " + kind, x.voice(2, voice, 7), want);
        due.same("its TRACE", trace(x), trace);
    }

    private static void voices() {
        voice(0, 0, 9, "10");
        voice(0, 1, 18, "11 10");
        voice(0, 2, 13, "12 11 10");
        voice(0, 3, 2, "13");
        voice(1, 0, 3, "20 10");
        voice(1, 1, 6, "11 20 10");
        voice(1, 2, 1, "12 11 20 10");
        voice(1, 3, -4, "21 13 11 20 10");
        voice(2, 0, 9, "10");
        voice(2, 1, -18, "30 11 10");
        voice(2, 2, -23, "12 30 11 10");
        voice(2, 3, 2, "13");
        voice(3, 0, 9, "10");
        voice(3, 1, 18, "11 10");
        voice(3, 2, 5, "40 12 11 10");
        voice(3, 3, 2, "13");
        voice(4, 0, 9, "50 20 10");
        voice(4, 1, 18, "11 50 20 10");
        voice(4, 2, 15, "51 12 11 50 20 10");
        voice(4, 3, -16, "21 13 11 50 20 10");
        voice(5, 0, 9, "10");
        voice(5, 1, -20, "60 30 11 10");
        voice(5, 2, -25, "12 60 30 11 10");
        voice(5, 3, 2, "13");
        voice(6, 0, 5, "70");
        voice(6, 1, 15, "71 11 70");
        voice(6, 2, 10, "12 71 11 70");
        voice(6, 3, 2, "13");
    }

    private static void wraps() {
        BreakTime x = Due.children(2, 0);
        due.is("likes(MAX)", x.voice(1, 0, Integer.MAX_VALUE), Integer.MIN_VALUE);
        due.is("comes(MAX)", x.voice(0, 1, Integer.MAX_VALUE), -2);
        due.is("moves(MIN) by -1", x.voice(1, 3, Integer.MIN_VALUE), Integer.MIN_VALUE);
        x.set(0, 1, 2);
        due.is("moves(-7) by 2, cut", x.voice(0, 3, -7), -3);
        x.set(0, 0, 3);
        due.is("BROUGHT shuts(-7), cut", x.voice(0, 2, -7), -8);
        x.set(0, 0, 5);
        due.is("BENCHED comes(MAX)", x.voice(0, 1, Integer.MAX_VALUE), 0);
        x.set(0, 1, 0);
        x.set(0, 0, 0);
        due.is("what looks like an ERROR", x.voice(0, 0, -1000001), -1000001);
        due.same("is none", Due.errors(x), "0 0 0 0 0 0 ");
    }

    private static void parted() {
        BreakTime x = Due.children(3, 102);
        due.is("ASKED moves by 2", x.voice(0, 3, 8), -6);
        due.is("ASKED moves by 0", x.voice(2, 3, 8), Due.PARTED);
        due.same("those that began", trace(x), "21 13");
        due.is("others are not", x.voice(2, 2, 8), 6);
        x.set(2, 0, 6);
        due.is("NUMBERED moves by 0", x.voice(2, 3, 0), Due.PARTED);
        due.same("that one began", trace(x), "13");
        due.is("then as ever", x.voice(1, 3, 8), 0);
        due.same("ERRORS", Due.errors(x), "0 0 0 0 0 2 ");
    }

    private static void errors() {
        BreakTime x = Due.children(2, 102);
        due.is("body(0) of none", x.body(0), Due.NONE);
        x.voice(0, 0, 0);
        due.is("body(1)", x.body(1), 10);
        due.is("body(2)", x.body(2), Due.NONE);
        String ahead = Due.state(x);
        due.is("voice(2, 0, 0)", x.voice(2, 0, 0), Due.BEYOND);
        due.is("voice(0, 4, 0)", x.voice(0, 4, 0), Due.BEYOND);
        due.is("voice(0, -1, 0)", x.voice(0, -1, 0), Due.BEYOND);
        for (int v : Due.FAR) {
            due.is("voice(far, 0, 0)", x.voice(v, 0, 0), Due.BEYOND);
            due.is("voice(0, far, 0)", x.voice(0, v, 0), Due.BEYOND);
            due.is("body(far)", x.body(v), Due.NONE);
        }
        due.same("after ERRORS", Due.state(x), ahead);
        due.same("ERRORS", Due.errors(x), "13 7 0 0 0 0 ");
    }
}
