/** The edges of promises 13 to 15 and of TEXTS, sentence by sentence. */
public final class EdgesOfTextsTest {
    private static final Due due = new Due();
    private static final int MIN = Integer.MIN_VALUE;
    private static final int MAX = Integer.MAX_VALUE;

    public static void main(String[] args) {
        feed();
        feedFull();
        feedBytes();
        text();
        numbers();
        open();
        compared();
        signs();
        truth();
        wraps();
        byNothing();
        faults();
        faultChangesNothing();
        namesOfLetsIn();
        ageOfTheLeast();
        namesOfMoves();
        heldLikes();
        untell();
        due.end();
    }

    private static void feed() {
        Edge p = new Edge(due, 13, Edge::rich);
        p.taken("n 1, the least", 6, x -> x.feed(0x31, 1), "bytes", 6, x -> x.count(5));
        p.taken("n 8, the greatest", 13, x -> x.feed(0x31, 8), "bytes", 13, x -> x.count(5));
        int[] n = {0, 9, -1, -8, MIN, MAX};
        for (int v : n) {
            p.refused("n " + v, Due.BEYOND, x -> x.feed(0x31, v));
        }
        p.by(BreakTime::new).taken("the first bytes", 8, x -> x.feed(-1L, 8), "bytes", 8, x -> x.count(5));
        p.by(BreakTime::new).refused("n 0 in an empty yard", Due.BEYOND, x -> x.feed(0, 0));
    }

    private static BreakTime fed(int bytes) {
        BreakTime x = new BreakTime();
        for (int i = 0; i < bytes; i++) {
            x.feed(0x31, 1);
        }
        return x;
    }

    private static void feedFull() {
        Edge p = new Edge(due, 13, () -> fed(52));
        p.taken("8 bytes to just 60", 60, x -> x.feed(0x31, 8), "bytes", 60, x -> x.count(5));
        p.by(() -> fed(53)).refused("8 bytes to 61: none comes", Due.FULL, x -> x.feed(0x31, 8));
        p.by(() -> fed(53)).taken("7 bytes to just 60", 60, x -> x.feed(0x31, 7));
        p.by(() -> fed(59)).taken("the sixtieth", 60, x -> x.feed(0x31, 1));
        p.by(() -> fed(59)).refused("2 bytes to 61: none comes", Due.FULL, x -> x.feed(0x31, 2));
        p.by(Edge::full).refused("1 byte to a full one", Due.FULL, x -> x.feed(0x31, 1));
        p.by(Edge::full).refused("8 bytes to a full one", Due.FULL, x -> x.feed(0x31, 8));
        p.by(Edge::full).refused("n 0: BEYOND ahead of FULL", Due.BEYOND, x -> x.feed(0x31, 0));
        p.by(Edge::full).refused("n 9: BEYOND ahead of FULL", Due.BEYOND, x -> x.feed(0x31, 9));
        p.by(Edge::full).refused("n MAX: BEYOND ahead of FULL", Due.BEYOND, x -> x.feed(0x31, MAX));
        p.by(Edge::full).taken("a full one is read", -10 - 60, x -> x.text(0), "anew", 8, x -> x.feed(0x31, 8));
    }

    private static void feedBytes() {
        Edge p = new Edge(due, 13, () -> Edge.one(0));
        p.taken("the lowest first", 2, x -> x.feed(0x3731L, 2) * x.text(0), "17", 17, x -> x.between(0, 0, 1));
        p.taken("no more than n", 1, x -> x.feed(0x3731L, 1) * x.text(0), "1", 1, x -> x.between(0, 0, 1));
        p.taken("the eighth byte is the highest", 8, x -> x.feed(0x392b302b302b302bL, 8) / 8 * 8,
                "it begins with +", -10, x -> x.text(0));
        p.taken("behind those ahead", 3, x -> x.feed(0x2b35L, 2) - 2 + x.feed(0x3031L, 2) - 1,
                "5+10", 15, x -> x.text(0) * x.between(0, 0, 1));
        p.taken("a word below 0", 8, x -> x.feed(0x80302b302b302b39L, 8), "its highest byte is none",
                -10 - 7, x -> x.text(0));
    }

    private static void text() {
        Edge p = new Edge(due, 14, Edge::rich);
        p.taken("USE 0, the least", 1, x -> x.text(0), "THE TAPE is empty", 0, x -> x.count(5));
        int[] use = {-1, 2, MIN, MAX};
        for (int v : use) {
            p.refused("USE " + v + ": THE TAPE stays", Due.BEYOND, x -> x.text(v));
        }
        p.by(() -> fed(0)).refused("USE 2, with an empty TAPE", Due.BEYOND, x -> x.text(2));
        p.by(() -> fed(4)).taken("USE 1, the greatest", 1, x -> x.text(1), "THE TAPE is empty", 0, x -> x.count(5));
        p.by(() -> fed(0)).shows("an empty TAPE", -10, x -> x.text(0));
        p.by(() -> fed(0)).shows("an empty TAPE, USE 1", -10, x -> x.text(1));
        p.by(() -> Edge.one(0)).taken("60 bytes", 1, x -> Due.text(x, 0, sum(29) + "+1"), "30", 30,
                x -> x.between(0, 0, 1));
        p.by(() -> Edge.one(0)).taken("60 bytes, each of them a sign of its own", 1,
                x -> Due.text(x, 0, "!0" + "+1".repeat(29)), "30", 30,
                x -> x.between(0, 0, 1));
        p.by(() -> Edge.one(0)).taken("a TEXT in place of one ahead", 1, x -> Due.text(x, 0, "7") * Due.text(x, 0, "8"),
                "the latter", 8, x -> x.between(0, 0, 1));
        p.by(() -> Edge.one(0)).taken("of another USE", 1, x -> Due.text(x, 0, "7") * Due.text(x, 1, "8"),
                "the one", 7, x -> x.between(0, 0, 1));
    }

    /** So many ones: twice as many bytes, less one. */
    private static String sum(int ones) {
        return "1" + "+1".repeat(ones - 1);
    }

    private static void worth(String text, int want) {
        Edge p = new Edge(due, 14, () -> Edge.one(0));
        p.taken("text " + text, 1, x -> Due.text(x, 0, text), "its worth", want, x -> x.between(0, 0, 1));
    }

    private static void fault(int use, String text, int place) {
        Edge p = new Edge(due, 14, () -> Edge.one(0));
        p.shows("text " + text.length() + " " + text, -10 - place, x -> Due.text(x, use, text));
    }

    private static void numbers() {
        worth("0", 0);
        worth("9", 9);
        worth("0009", 9);
        worth("9999-9900", 99);
        worth("0000", 0);
        fault(0, "10000", 4);
        fault(0, "00001", 4);
        fault(0, "1+12345", 6);
        fault(0, "!12345", 5);
    }

    private static void open() {
        worth("!!!!!0", 1);
        worth("!!!!!1", 0);
        worth("(((((7)))))", 7);
        worth("!(!(!0))", 1);
        worth("(!(!(7)))", 1);
        worth("!!!!!0+!!!!!0", 2);
        worth("(((((7)))))+(((((8)))))", 15);
        worth("((((!0+!0))))", 2);
        worth("((((!0)+!0)))", 2);
        fault(0, "!!!!!!0", 5);
        fault(0, "((((((7))))))", 5);
        fault(0, "!!!!!(0)", 5);
        fault(0, "(((((!0)))))", 5);
        fault(0, "!(!(!(0)))", 5);
        fault(0, "!!!!!0+!!!!!!0", 12);
        fault(0, "(((((7)+((8))))))", 9);
        fault(0, "((((!(0)", 5);
        fault(0, "(((((0", 6);
        fault(0, "(((((0)))))))", 11);
    }

    private static void compared() {
        worth("1<2", 1);
        worth("(1<2)<3", 1);
        worth("1<(2<3)", 0);
        worth("1<2&2<3", 1);
        worth("1<2|2<3", 1);
        worth("1<2&2<3&3<4|0>1", 1);
        fault(0, "1<2<3", 3);
        fault(0, "1=1=1", 3);
        fault(0, "3>2>1", 3);
        fault(0, "1<2+3<4", 5);
        fault(0, "(1<2<3)", 4);
        fault(0, "1<(2)<3", 5);
        fault(0, "1<!2<3", 4);
        fault(0, "1<(2<3)<4", 7);
        fault(0, "1<(2<3<4)", 6);
        fault(0, "1&1<2<3", 5);
    }

    private static void signs() {
        worth("2+3*4", 14);
        worth("(2+3)*4", 20);
        worth("20-3-2", 15);
        worth("20-(3-2)", 19);
        worth("90/3/5", 6);
        worth("90/(9/3)", 30);
        worth("50%30%7", 6);
        worth("2*9/4", 4);
        worth("9/4*2", 4);
        worth("1+2=3", 1);
        worth("1+(2=3)", 1);
        worth("!1=0", 1);
        worth("!(1=0)", 1);
        worth("!0+!0", 2);
        worth("1|0&0", 1);
        worth("(1|0)&0", 0);
        worth("1=1&2=2", 1);
        worth("5=(1&1)", 0);
        worth("7/2", 3);
        worth("10+(0-7)/2", 7);
        worth("10+7/(0-2)", 7);
        worth("10+(0-7)%2", 9);
        worth("10+7%(0-2)", 11);
        worth("10+(0-7)/(0-2)", 13);
    }

    private static void truth() {
        worth("7|0", 1);
        worth("0|7", 1);
        worth("0|0", 0);
        worth("7|8", 1);
        worth("7&8", 1);
        worth("7&0", 0);
        worth("0&7", 0);
        worth("0&0", 0);
        worth("(0-1)&2", 1);
        worth("0|(0-1)", 1);
        worth("!7", 0);
        worth("!(0-7)", 0);
        worth("!0", 1);
        worth("!!7", 1);
        worth("1<1", 0);
        worth("0<1", 1);
        worth("1<0", 0);
        worth("1=1", 1);
        worth("1=0", 0);
        worth("1>1", 0);
        worth("1>0", 1);
        worth("0>1", 0);
        worth("(0-1)<1", 1);
        worth("(0-1)>1", 0);
    }

    private static void wraps() {
        // MAX is 2147 * 1000 * 1000 + 483 * 1000 + 647
        String max = "2147*1000*1000+483*1000+647";
        worth(max + ">0", 1);
        worth(max + "+1<0", 1);
        worth("0-(" + max + ")-2>0", 1);
        worth("0-(" + max + ")-1=8192*8192*32", 1);
        worth("8192*8192*32<0", 1);
        worth("8192*8192*64", 0);
        worth("0-8192*8192*32<0", 1);
        worth("8192*8192*32/(0-1)<0", 1);
        worth("8192*8192*32%(0-1)", 0);
        worth("8192*8192*32-1>0", 1);
        worth("8192*8192*32<1", 1);
        worth("8192*8192*32=8192*8192*32", 1);
        worth("!(8192*8192*32)", 0);
    }

    private static void byNothing() {
        worth("7/0", 0);
        worth("7%0", 0);
        worth("0/0", 0);
        worth("0%0", 0);
        worth("8192*8192*32/0", 0);
        worth("5+7/0", 5);
        worth("5+7%(3-3)", 5);
        worth("1|1/0", 1);
        worth("0&1%0", 0);
    }

    private static void faults() {
        fault(0, "", 0);
        fault(1, "", 0);
        fault(0, " ", 0);
        fault(0, "1 ", 1);
        fault(0, "1+ 1", 2);
        fault(0, "1+", 2);
        fault(0, "1<", 2);
        fault(0, "1&", 2);
        fault(0, "!", 1);
        fault(0, "(", 1);
        fault(0, "(1", 2);
        fault(0, "1)", 1);
        fault(0, "()", 1);
        fault(0, ")", 0);
        fault(0, "-1", 0);
        fault(0, "1+-1", 2);
        fault(0, "1!", 1);
        fault(0, "1(", 1);
        fault(0, "w1", 1);
        fault(0, "1w", 1);
        fault(0, "(1)(1)", 3);
        fault(0, "" + (char) 0, 0);
        fault(0, "" + (char) 128, 0);
        fault(0, "" + (char) 255, 0);
        fault(0, "1" + (char) (128 + '+') + "1", 1);
        fault(0, "1/" + (char) ('0' - 1), 2);
        fault(0, "1" + (char) ('9' + 1), 1);
        fault(0, "1+1+1+1+1+1+1+1+1+1+1+1+1+1+1+1+1+1+1+1+1+1+1+1+1+1+1+1+1+1+", 60);
        fault(0, sum(29) + "+(", 59);
        fault(0, sum(30) + ")", 59);
    }

    private static void faultChangesNothing() {
        Edge p = new Edge(due, 14, () -> {
            BreakTime x = Edge.one(0);
            Due.text(x, 0, "13");
            return x;
        });
        p.taken("a FAULT is no ERROR", -10 - 2, x -> Due.text(x, 0, "1+"), "the one ahead stays", 13,
                x -> x.between(0, 0, 1));
        p.taken("a FAULT", -10, x -> x.text(0), "the one ahead is there still", 1, x -> x.untell(0));
        p.taken("a FAULT", -10 - 2, x -> Due.text(x, 0, "1+"), "THE TAPE is empty, too", 0, x -> x.count(5));
        p.by(() -> Edge.one(0)).taken("a FAULT without one ahead", -10 - 2, x -> Due.text(x, 0, "1+"),
                "there is none", 0, x -> x.untell(0));
        p.taken("60 bytes that end too early", -10 - 60, x -> Due.text(x, 0, sum(30) + "+"),
                "the one ahead stays", 13, x -> x.between(0, 0, 1));
    }

    private static void namesOfLetsIn() {
        String names = "wrnxa";
        for (int sign = 0; sign < 256; sign++) {
            boolean fits = sign >= '0' && sign <= '9' || names.indexOf((char) sign) >= 0;
            String text = "" + (char) sign;
            int early = sign == '!' || sign == '(' ? 1 : 0;
            Edge p = new Edge(due, 14, () -> Edge.one(0));
            p.taken("the byte " + sign + " alone, USE 0", fits ? 1 : -10 - early, x -> Due.text(x, 0, text));
        }
        Edge p = new Edge(due, 14, () -> yard(0));
        p.taken("n of none", 1, x -> Due.text(x, 0, "n"), "its worth", 0, x -> x.between(0, 0, 1));
        p.taken("a without one in it", 1, x -> Due.text(x, 0, "a"), "its worth", 0, x -> x.between(0, 0, 1));
        p.taken("w without others", 1, x -> Due.text(x, 0, "w"), "its worth", 0, x -> x.between(0, 0, 1));
        p.taken("r", 1, x -> Due.text(x, 0, "r"), "its worth", 50, x -> x.between(0, 0, 1));
        p.taken("x", 1, x -> Due.text(x, 0, "x"), "its worth", 0, x -> x.between(0, 0, 1));
        p.by(() -> yard(8)).taken("n of eight", 1, x -> Due.text(x, 0, "n"), "its worth", 8, x -> x.between(0, 0, 1));
        p.by(() -> yard(1)).taken("n, the child itself in it, too", 1, x -> x.join(0, 0) / 2 * Due.text(x, 0, "n"),
                "its worth", 2, x -> x.between(0, 0, 1));
        p.by(EdgesOfTextsTest::watcher).taken("x of 99", 1, x -> Due.text(x, 0, "x"), "its worth", 99,
                x -> x.between(0, 0, 1));
    }

    private static BreakTime watcher() {
        BreakTime x = Edge.one(0);
        Due.text(x, 0, "0-100");
        x.minutes(60);
        x.minutes(60);
        return x;
    }

    /** Child 0 of AGE 40 by the wall, 1 .. n of AGES 10, 20, .. in a HEAP of RULE 50. */
    private static BreakTime yard(int n) {
        BreakTime x = new BreakTime();
        x.child(0, 40, 1);
        x.heap(1, 10);
        x.rule(0, 50);
        for (int i = 1; i <= n; i++) {
            x.child(0, 10 * i, 1);
            x.join(i, 0);
        }
        return x;
    }

    private static int ages(BreakTime x, int own, int least) {
        x.set(0, 2, own);
        x.set(1, 2, least);
        return Due.text(x, 0, "a");
    }

    private static void ageOfTheLeast() {
        Edge p = new Edge(due, 14, () -> yard(3));
        p.taken("a of the least number in it", 1, x -> Due.text(x, 0, "a"), "30", 30, x -> x.between(0, 0, 1));
        p.taken("a, as the least leaves", 1, x -> Due.text(x, 0, "a") + x.leave(1), "20", 20,
                x -> x.between(0, 0, 1));
        p.taken("a of like AGES", 1, x -> ages(x, 10, 10), "0", 0, x -> x.between(0, 0, 1));
        p.taken("a, the greatest", 1, x -> ages(x, 99, 0), "99", 99, x -> x.between(0, 0, 1));
        p.taken("a without a sign, the greatest", 1, x -> ages(x, 0, 99), "99", 99, x -> x.between(0, 0, 1));
        p.taken("a, itself the least in it", 4, x -> Due.text(x, 0, "a") * x.join(0, 0), "0", 0,
                x -> x.between(0, 0, 1));
    }

    private static void namesOfMoves() {
        String names = "lofh";
        for (int sign = 0; sign < 256; sign++) {
            boolean fits = sign >= '0' && sign <= '9' || names.indexOf((char) sign) >= 0;
            String text = "" + (char) sign;
            int early = sign == '!' || sign == '(' ? 1 : 0;
            Edge p = new Edge(due, 14, () -> Edge.one(0));
            p.taken("the byte " + sign + " alone, USE 1", fits ? 1 : -10 - early, x -> Due.text(x, 1, text));
        }
    }

    private static void heldLikes() {
        Edge p = new Edge(due, 14, () -> Due.children(2, 0));
        String[] texts = {"0", "99", "100", "9999", "0-1", "0-9999", "8192*8192*32", "8192*8192*32-1"};
        int[] want = {0, 99, 99, 99, 0, 0, 0, 99};
        for (int i = 0; i < texts.length; i++) {
            String text = texts[i];
            p.taken("MOVES " + text, 1, x -> Due.text(x, 1, text) * x.terms(1), "LIKES", want[i],
                    x -> x.likes(0, 1, 0));
        }
    }

    private static void untell() {
        Edge p = new Edge(due, 15, Edge::rich);
        p.taken("USE 0", 1, x -> x.untell(0), "again", 0, x -> x.untell(0));
        p.taken("USE 1", 1, x -> x.untell(1), "again", 0, x -> x.untell(1));
        p.taken("USE 0 alone", 1, x -> x.untell(0), "USE 1 is there", 1, x -> x.untell(1));
        p.taken("USE 1 alone", 1, x -> x.untell(1), "USE 0 is there", 1, x -> x.untell(0));
        p.taken("THE TAPE stays", 1, x -> x.untell(0), "bytes", 5, x -> x.count(5));
        int[] use = {-1, 2, MIN, MAX};
        for (int v : use) {
            p.refused("USE " + v, Due.BEYOND, x -> x.untell(v));
        }
        p.by(BreakTime::new).shows("none of USE 0", 0, x -> x.untell(0));
        p.by(BreakTime::new).shows("none of USE 1", 0, x -> x.untell(1));
        p.by(() -> Edge.one(0)).taken("LETS IN without it again", 1, x -> Due.text(x, 0, "9") * x.untell(0),
                "CHANCE", 0, x -> x.between(0, 0, 1));
        p.by(() -> Due.children(2, 0)).taken("MOVES without it again", 1, x -> Due.text(x, 1, "9") * x.untell(1),
                "LIKES stay", 0, x -> (x.terms(1) - 1) + x.likes(0, 1, 0));
    }
}
