/**
 * Looks at the edges of one promise. Each look makes two objects by the same calls; one makes the
 * call that is looked at, the other one doesn't, and all that can be seen of both is compared.
 */
final class Edge {
    interface Make {
        BreakTime yard();
    }

    interface Call {
        int of(BreakTime x);
    }

    private static final int LOW = -1000000;

    private final Due due;
    private final int promise;
    private final Make make;

    Edge(Due due, int promise, Make make) {
        this.due = due;
        this.promise = promise;
        this.make = make;
    }

    Edge by(Make other) {
        return new Edge(due, promise, other);
    }

    private String named(String what) {
        return "promise " + promise + ": " + what;
    }

    /** Answers an ERROR; told() counts just this one; nothing else has changed. */
    void refused(String what, int error, Call call) {
        due.is(named(what), calledAlone(what, call, LOW - error), error);
    }

    /** Refused, but what stays unchanged behind it is for another look. */
    void refusedWith(String what, int error, Call call, String look, int want, Call after) {
        BreakTime x = make.yard();
        int[] ahead = told(x);
        due.is(named(what), call.of(x), error);
        toldMore(what, x, ahead, LOW - error);
        due.is(named(what + "; then " + look), after.of(x), want);
    }

    /** Answers so, counts no ERROR and changes nothing. */
    void shows(String what, int want, Call call) {
        due.is(named(what), calledAlone(what, call, 0), want);
    }

    /** Answers so and counts no ERROR. */
    void taken(String what, int want, Call call) {
        BreakTime x = make.yard();
        int[] ahead = told(x);
        due.is(named(what), call.of(x), want);
        toldMore(what, x, ahead, 0);
    }

    /** Answers so, counts no ERROR, and another call shows what it did. */
    void taken(String what, int want, Call call, String look, int shown, Call after) {
        BreakTime x = make.yard();
        int[] ahead = told(x);
        due.is(named(what), call.of(x), want);
        toldMore(what, x, ahead, 0);
        due.is(named(what + "; then " + look), after.of(x), shown);
    }

    private int calledAlone(String what, Call call, int k) {
        BreakTime x = make.yard();
        BreakTime untouched = make.yard();
        int[] ahead = told(x);
        int answer = call.of(x);
        toldMore(what, x, ahead, k);
        due.same(named(what + "; all else"), whole(x), whole(untouched));
        return answer;
    }

    private static int[] told(BreakTime x) {
        int[] told = new int[7];
        for (int k = 1; k <= 6; k++) {
            told[k] = x.told(k);
        }
        return told;
    }

    private void toldMore(String what, BreakTime x, int[] ahead, int more) {
        for (int k = 1; k <= 6; k++) {
            due.is(named(what + "; told(" + k + ")"), x.told(k), ahead[k] + (k == more ? 1 : 0));
        }
    }

    /**
     * All that can be seen of an object but told(), which it uses up. Of a great yard THE TAPE, the
     * TEXTS and the IMAGE are left out: a look at them would need more than 512 calls.
     */
    private static String whole(BreakTime x) {
        StringBuilder s = new StringBuilder(Due.state(x));
        for (int i = 0; i < 4; i++) {
            s.append("\nsheet ").append(sheet(x, i));
        }
        s.append("\ncheck ").append(x.check(0));
        if (x.count(0) <= 4) {
            s.append("\ntape ").append(x.text(0)).append(' ').append(Due.state(x));
            s.append("\nmoves ").append(x.terms(1)).append(' ').append(Due.state(x));
            s.append("\nimage ").append(x.restore()).append(' ').append(Due.state(x));
            s.append("\nuntell ").append(x.untell(0)).append(x.untell(1));
        }
        s.append("\nimages ").append(x.image());
        return s.toString();
    }

    /** The numbers of a SHEET that can be LIKES, each brought to its first place to be read there. */
    private static String sheet(BreakTime x, int sheet) {
        StringBuilder s = new StringBuilder();
        boolean two = x.count(0) >= 2;
        for (int i = 0; x.move(sheet, i, sheet, 0, 1) == 1; i++) {
            s.append(two ? number(x, sheet) : 0).append(' ');
        }
        if (two && x.put(sheet, 0, 300) == 1) {
            s.append("of 8 bits: ").append(number(x, sheet));
            x.put(sheet, 0, 65536 + 7);
            s.append(" of 16 bits: ").append(number(x, sheet));
        }
        return s.append(x.put(sheet, 0, 0)).toString();
    }

    private static int number(BreakTime x, int sheet) {
        int was = x.likes(1, 0, 99);
        boolean read = x.slips(sheet, 1) > 0;
        int v = x.likes(1, 0, was);
        return read ? v : -1;
    }

    /** Four children in a yard in which everything has come to pass. */
    static BreakTime rich() {
        BreakTime x = new BreakTime();
        x.child(107, 20, 1);
        x.child(202, 35, 0);
        x.child(503, 50, 1);
        x.child(604, 99, 1);
        x.heap(2, 3);
        x.heap(3, 3);
        x.likes(0, 1, 60);
        x.likes(1, 0, 7);
        x.likes(2, 0, 55);
        x.likes(3, 1, 40);
        x.likes(1, 3, 51);
        x.rule(0, 99);
        x.rule(1, 98);
        x.join(1, 1);
        x.minutes(2);
        x.image();
        x.rule(1, 71);
        x.join(3, 0);
        x.terms(2);
        Due.text(x, 0, "x*3-a/9");
        Due.text(x, 1, "l+h*2-f");
        x.join(2, 0);
        x.seed(77);
        x.minutes(2);
        x.likes(1, 0, 70);
        Due.feed(x, "r/2+n");
        for (int i = 0; i < 4; i++) {
            if (x.childIs(i, 4) == 0) {
                x.tell(i);
            }
        }
        x.sheet(0, 8, 2);
        x.put(0, 0, 31);
        x.put(0, 1, 32);
        x.sheet(1, 16, 3);
        x.put(1, 1, 33);
        x.sheet(3, 32, 1);
        x.put(3, 0, 98);
        x.voice(0, 3, 9);
        x.as(1, 6);
        return x;
    }

    /** All that has an end is full: CHILDREN, HEAPS, THE TAPE, a SHEET, the numbers that wait. */
    static BreakTime full() {
        BreakTime x = new BreakTime();
        for (int i = 0; i < 10; i++) {
            x.child(100 * (i % 7) + i, 9 * i, i % 2);
        }
        for (int i = 0; i < 5; i++) {
            x.heap(i + 1, i + 2);
            x.join(i * 2, i);
        }
        for (int i = 0; i < 7; i++) {
            x.feed(0x2b312b312b312b31L, 8);
        }
        x.feed(0x2b312b31L, 4);
        for (int i = 0; i < 24; i++) {
            x.tell(i);
        }
        x.sheet(2, 8, 24);
        return x;
    }

    /** A child by the wall who MINDS, of a KIND and m, and a HEAP of LEAST 1, MOST 5 and RULE 50. */
    static BreakTime one(int km) {
        BreakTime x = Due.children(1, km);
        x.heap(1, 5);
        x.rule(0, 50);
        return x;
    }
}
