/** Promises 13 to 15: feed, text, untell. */
public final class TextsTest {
    private static final Due due = new Due();

    public static void main(String[] args) {
        feed();
        worths();
        namesOfLetsIn();
        namesOfMoves();
        faults();
        textErrors();
        untell();
        due.end();
    }

    private static void feed() {
        BreakTime x = new BreakTime();
        due.is("feed(.., 1)", x.feed(0x6161616161616131L, 1), 1);
        due.is("the lowest byte alone", x.text(0), 1);
        due.is("feed, 8 bytes", x.feed(0x312b312b312b312bL, 8), 8);
        due.is("the lowest first", x.text(0), -10);
        String ahead = Due.state(x);
        due.is("feed(0, 0)", x.feed(0, 0), Due.BEYOND);
        due.is("feed(0, 9)", x.feed(0, 9), Due.BEYOND);
        for (int v : Due.FAR) {
            due.is("feed(0, far)", x.feed(0, v), Due.BEYOND);
        }
        due.same("after BEYOND", Due.state(x), ahead);
        for (int i = 1; i <= 7; i++) {
            due.is("feed " + i, x.feed(-1L, 8), 8 * i);
        }
        due.is("61 bytes", x.feed(0, 5), Due.FULL);
        due.is("BEYOND ahead of FULL", x.feed(0, 9), Due.BEYOND);
        due.is("as it was", x.count(5), 56);
        due.is("60 bytes", x.feed(0, 4), 60);
        due.is("a byte more", x.feed(0, 1), Due.FULL);
        due.same("ERRORS", Due.errors(x), "8 0 0 2 0 0 ");
        due.is("byte 255", x.text(0), -10);
        due.is("empty then", x.count(5), 0);
    }

    /** LETS IN is added to 0 here; what lies outside 0 .. 100 is held. */
    private static BreakTime reckoner() {
        BreakTime x = Due.children(1, 0);
        x.heap(1, 5);
        x.rule(0, 50);
        return x;
    }

    private static void worth(String text, int want) {
        BreakTime x = reckoner();
        due.is("text " + text, Due.text(x, 0, text), 1);
        due.is(text, x.between(0, 0, 1), want);
    }

    private static void worths() {
        worth("7", 7);
        worth("0099", 99);
        worth("1+2*3", 7);
        worth("(1+2)*3", 9);
        worth("10-3-2", 5);
        worth("10-(3-2)", 9);
        worth("2*7%4", 2);
        worth("80/4/2", 10);
        worth("20/3", 6);
        worth("(0-7)/2+10", 7);
        worth("(0-7)%4+10", 7);
        worth("5/0+3", 3);
        worth("5%0+3", 3);
        worth("0|0", 0);
        worth("0|7", 1);
        worth("2&4", 1);
        worth("2&0", 0);
        worth("1|1&0", 1);
        worth("0&0|1", 1);
        worth("!0", 1);
        worth("!5", 0);
        worth("!!5", 1);
        worth("!1+1", 1);
        worth("!(0-1)", 0);
        worth("1<2", 1);
        worth("2<2", 0);
        worth("2=2", 1);
        worth("2=3", 0);
        worth("3>2", 1);
        worth("2>2", 0);
        worth("1+1=2&3>2", 1);
        worth("(3>2)+(2<3)", 2);
        worth("1<2|3<2", 1);
        worth("!0*5", 5);
        // 9999 * 9999 * 9999 wraps to -1027349969
        worth("9999*9999*9999<0", 1);
        worth("9999*9999*9999%100+100", 31);
        worth("8192*8192*32/(0-1)<0", 1);
        worth("8192*8192*32%(0-1)", 0);
        worth("8192*8192*32-1>0", 1);
        worth("!!!!!1", 0);
        worth("!!!!!0", 1);
        worth("(((((9)))))", 9);
        worth("!(!(!1))+!(!(!0))", 1);
        worth("1+1+1+1+1+1+1+1+1+1+1+1+1+1+1+1+1+1+1+1+1+1+1+1+1+1+1+1+10", 38);
        worth("0|1&1<1+1*(0|1&1<1+1*(0|1&1<1+1*(0|1&1<1+1*(0|1&1<1+9))))", 1);
    }

    private static void letsIn(BreakTime x, int child, String text, int want) {
        Due.text(x, 0, text);
        due.is(text, x.between(child, 0, 1), want);
    }

    private static void namesOfLetsIn() {
        BreakTime x = new BreakTime();
        x.child(0, 10, 1);
        x.child(0, 33, 1);
        x.child(0, 90, 1);
        x.heap(1, 9);
        letsIn(x, 1, "a", 20);
        letsIn(x, 1, "n", 20);
        x.rule(0, 99);
        x.minutes(2);
        letsIn(x, 1, "x*30", 11);
        x.rule(0, 50);
        letsIn(x, 1, "r", 50);
        letsIn(x, 1, "x", 2);
        x.join(2, 0);
        letsIn(x, 1, "a", 57);
        letsIn(x, 1, "n", 1);
        x.join(0, 0);
        letsIn(x, 1, "a", 23);
        letsIn(x, 2, "a", 80);
        letsIn(x, 0, "a", 0);
        letsIn(x, 1, "n", 2);
        letsIn(x, 0, "n", 2);
        x.likes(0, 1, 20);
        letsIn(x, 1, "w", 20);
        letsIn(x, 1, "w*2", 30);
        x.set(1, 0, 6);
        x.heap(3, 5);
        x.join(0, 1);
        x.join(2, 1);
        Due.text(x, 0, "0-1");
        due.is("NUMBERED is 100 ahead of LETS IN", x.between(1, 1, 1), 99);
    }

    private static void moves(String text, int want) {
        BreakTime x = Due.children(5, 0);
        x.heap(1, 9);
        x.join(0, 0);
        x.join(1, 0);
        x.likes(0, 1, 60);
        x.likes(1, 0, 70);
        x.likes(0, 2, 50);
        x.likes(1, 2, 50);
        x.likes(0, 3, 50);
        x.likes(1, 3, 49);
        x.likes(0, 4, 99);
        x.likes(1, 4, 99);
        due.is("text " + text, Due.text(x, 1, text), 1);
        due.is("terms(1)", x.terms(1), 1);
        due.is(text, x.likes(0, 1, 0), want);
    }

    private static void namesOfMoves() {
        moves("l", 60);
        moves("o", 70);
        moves("f", 2);
        moves("h", 1);
        moves("0-5", 0);
        moves("9999", 99);
        moves("l*100+o", 99);
        BreakTime x = Due.children(3, 0);
        x.likes(1, 0, 50);
        x.likes(2, 0, 99);
        Due.text(x, 1, "f*20+3");
        x.terms(1);
        due.is("both like 0", x.likes(1, 2, 0), 23);
        due.is("0 and 1 like nobody both", x.likes(1, 0, 0), 3);
        due.is("nobody likes oneself", x.childIs(2, 6), 3);
        due.is("nobody names oneself", x.childIs(0, 6), 6);
    }

    private static void fault(int use, String text, int place) {
        BreakTime x = reckoner();
        Due.text(x, 0, "5");
        due.is("the FAULT of " + text, Due.text(x, use, text), -10 - place);
        due.is("THE TAPE after it", x.count(5), 0);
        due.is("the one ahead stays", x.between(0, 0, 1), 5);
        due.same("no ERROR", Due.errors(x), "0 0 0 0 0 0 ");
    }

    private static void faults() {
        fault(0, "", 0);
        fault(1, "", 0);
        fault(0, "z", 0);
        fault(0, "w+", 2);
        fault(0, "w+3|", 4);
        fault(0, "12345", 4);
        fault(0, "00000", 4);
        fault(0, "1 2", 1);
        fault(0, " 1", 0);
        fault(0, "1<2<3", 3);
        fault(0, "1=2>3", 3);
        fault(0, "(1", 2);
        fault(0, "(1))", 3);
        fault(0, ")", 0);
        fault(0, "()", 1);
        fault(0, "!", 1);
        fault(0, "!!!!!!w", 5);
        fault(0, "((((((1", 5);
        fault(0, "!(!(!(1", 5);
        fault(0, "(((((1)))))+((((((1", 17);
        fault(0, "ww", 1);
        fault(0, "1w", 1);
        fault(0, "w1", 1);
        fault(0, "1!2", 1);
        fault(0, "1(2)", 1);
        fault(0, "(1)2", 3);
        fault(0, "-1", 0);
        fault(0, "1==2", 2);
        fault(0, "1<=2", 2);
        fault(0, "1|", 2);
        fault(0, "W", 0);
        fault(0, "l", 0);
        fault(0, "f", 0);
        fault(1, "w", 0);
        fault(1, "l+o+f+h+n", 8);
        fault(0, "1" + (char) 177, 1);
        fault(0, "1" + (char) 0, 1);
        fault(0, "" + (char) 255, 0);
        String thirty = "1+1+1+1+1+1+1+1+1+1+1+1+1+1+1+";
        fault(0, thirty + thirty, 60);
    }

    private static void textErrors() {
        BreakTime x = reckoner();
        Due.feed(x, "9");
        due.is("text(2)", x.text(2), Due.BEYOND);
        due.is("text(-1)", x.text(-1), Due.BEYOND);
        for (int v : Due.FAR) {
            due.is("text(far)", x.text(v), Due.BEYOND);
        }
        due.is("THE TAPE stays", x.count(5), 1);
        due.is("text(0)", x.text(0), 1);
        due.is("THE TAPE is empty", x.count(5), 0);
        due.is("its worth", x.between(0, 0, 1), 9);
        Due.text(x, 1, "1");
        due.is("its worth, with another USE's", x.between(0, 0, 1), 9);
        Due.text(x, 0, "8");
        due.is("in place of it", x.between(0, 0, 1), 8);
        due.same("ERRORS", Due.errors(x), "7 0 0 0 0 0 ");
        for (int i = 0; i < 20; i++) {
            Due.text(x, 0, "1+1+1+1+1+1+1+1+1+1+1+1+1+1+1+1+1+1+1+1+1+1+1+1+1+1+1+1+1*" + i);
            due.is("a long one in place of a long one", x.between(0, 0, 1), 28 + i);
        }
    }

    private static void untell() {
        BreakTime x = reckoner();
        Due.text(x, 0, "9");
        Due.feed(x, "1");
        due.is("untell(1)", x.untell(1), 0);
        due.is("untell(2)", x.untell(2), Due.BEYOND);
        for (int v : Due.FAR) {
            due.is("untell(far)", x.untell(v), Due.BEYOND);
        }
        due.is("there still", x.between(0, 0, 1), 9);
        due.is("untell(0)", x.untell(0), 1);
        due.is("none any more", x.between(0, 0, 1), 0);
        due.is("untell(0) again", x.untell(0), 0);
        due.is("THE TAPE stays", x.count(5), 1);
        due.same("ERRORS", Due.errors(x), "6 0 0 0 0 0 ");
    }
}
