/** Promises 16 to 18: minutes, terms, seed. */
public final class MinutesTest {
    private static final Due due = new Due();

    // the first three numbers of DRAWS from 1 on; the rest of the first draw by 100 is 54
    private static final int Z1 = 1103527590;
    private static final int Z2 = Z1 * 1103515245 + 12345;

    public static void main(String[] args) {
        draws();
        byTheWall();
        oneAfterAnother();
        fallingApart();
        sorrowOfThoseWhoMind();
        minutesErrors();
        greatest();
        termWithout();
        termWith();
        termsErrors();
        seed();
        due.end();
    }

    private static BreakTime oneByAHeap(int km, String letsIn) {
        BreakTime x = Due.children(1, km);
        x.heap(1, 5);
        x.rule(0, 0);
        Due.text(x, 0, letsIn);
        return x;
    }

    private static void draws() {
        BreakTime x = oneByAHeap(0, "4");
        due.is("CHANCE 54", x.minutes(1), 1);
        due.is("not let in", x.childIs(0, 4), -1);
        due.is("WATCHING", x.between(0, 0, 2), 1);
        due.is("z", x.count(8), Z1);
        x = oneByAHeap(0, "5");
        due.is("CHANCE 55", x.minutes(1), 0);
        due.is("let in", x.childIs(0, 4), 0);
        due.is("WATCHING, let in", x.between(0, 0, 2), 0);
        due.is("z, let in", x.count(8), Z1);
        x.minutes(5);
        due.is("nobody by the wall: no draw", x.count(8), Z1);
        x = oneByAHeap(0, "0-99");
        x.minutes(1);
        due.is("a draw though CHANCE is 0", x.count(8), Z1);
        x.minutes(1);
        due.is("another draw", x.count(8), Z2);
        x.seed(Integer.MIN_VALUE);
        x.minutes(1);
        due.is("z wraps", x.count(8), Integer.MIN_VALUE * 1103515245 + 12345);
    }

    private static void byTheWall() {
        BreakTime x = Due.children(2, 0);
        due.is("without HEAPS", x.minutes(3), 6);
        due.is("no draw without HEAPS", x.count(8), 1);
        due.is("MINUTES", x.count(2), 3);
        x = oneByAHeap(205, "0-1");
        x.minutes(1);
        due.is("WATCHED, by CHANCE as it is then, 54", x.childIs(0, 4), -1);
        x = oneByAHeap(206, "0-1");
        x.minutes(1);
        due.is("WATCHED, by CHANCE as it is then, 55", x.childIs(0, 4), 0);
        x = oneByAHeap(0, "4");
        x.heap(1, 5);
        x.minutes(1);
        due.is("of like ones the least", x.between(0, 0, 2), 1);
        x.rule(0, 30);
        x.rule(1, 29);
        x.seed(1);
        x.minutes(1);
        due.is("the most CHANCE", x.between(0, 1, 2), 1);
        due.is("not the other one", x.between(0, 0, 2), 1);
        x = oneByAHeap(0, "5");
        x.heap(1, 5);
        x.rule(1, 0);
        x.rule(0, 99);
        Due.text(x, 0, "0-99");
        x.minutes(1);
        due.is("stood by 0", x.between(0, 0, 2), 1);
        Due.text(x, 0, "50");
        x.minutes(1);
        due.is("let in by 1", x.childIs(0, 4), 1);
        due.is("WATCHING of all is 0", x.between(0, 0, 2), 0);
    }

    private static void oneAfterAnother() {
        BreakTime x = Due.children(3, 0);
        x.heap(1, 1);
        x.rule(0, 0);
        Due.text(x, 0, "50");
        due.is("two stay out", x.minutes(1), 2);
        due.is("the first is let in", x.heapIs(0, 3), 1);
        due.is("the others draw, too", x.count(8), Z2 * 1103515245 + 12345);
        due.is("the others watch", x.between(1, 0, 2), 1);
    }

    private static void fallingApart() {
        BreakTime x = Due.children(4, 0);
        x.heap(3, 5);
        x.heap(2, 5);
        x.rule(0, 99);
        x.rule(1, 99);
        x.join(0, 0);
        x.join(3, 0);
        x.minutes(1);
        x.join(1, 1);
        due.is("the fourth", x.minutes(3), 5);
        due.is("as long as 4", x.heapIs(0, 3), 9);
        x.minutes(1);
        due.is("all go to the wall", x.count(4), 13);
        due.is("the other one stays", x.heapIs(1, 3), 2);
        due.is("the other one's MINUTES", x.heapIs(1, 4), 4);
        due.is("ALONE from the next MINUTE on", x.childIs(0, 5), 0);
        x.minutes(1);
        due.is("ALONE", x.childIs(0, 5), 1);
        due.is("all by the wall", x.count(4), 15);
        due.is("ALONE of 1", x.childIs(1, 5), 1);
    }

    private static void sorrowOfThoseWhoMind() {
        BreakTime x = new BreakTime();
        x.child(0, 0, 1);
        x.child(0, 0, 0);
        x.child(0, 0, 1);
        due.is("minutes(60)", x.minutes(60), 120);
        x.set(0, 3, 0);
        due.is("minutes(1)", x.minutes(1), 61);
        due.is("ALONE of one who doesn't MIND", x.childIs(1, 5), 61);
        due.is("minutes(1) of nobody", new BreakTime().minutes(1), 0);
    }

    private static void minutesErrors() {
        BreakTime x = Due.children(2, 0);
        x.heap(1, 3);
        String ahead = Due.state(x);
        due.is("minutes(0)", x.minutes(0), Due.BEYOND);
        due.is("minutes(61)", x.minutes(61), Due.BEYOND);
        for (int v : Due.FAR) {
            due.is("minutes(far)", x.minutes(v), Due.BEYOND);
        }
        due.same("after BEYOND", Due.state(x), ahead);
        due.same("ERRORS", Due.errors(x), "7 0 0 0 0 0 ");
        for (int i = 0; i < 450; i++) {
            due.holds("MINUTES so far far below 99999", x.minutes(60) >= 0);
        }
        due.is("MINUTES", x.count(2), 27000);
    }

    /** Beyond what 512 calls can reach, as it is built all the same. */
    private static void greatest() {
        BreakTime x = Due.children(2, 0);
        for (int i = 0; i < 1666; i++) {
            x.minutes(60);
        }
        due.is("minutes(40) above 99999", x.minutes(40), Due.STATE);
        due.is("minutes(61): BEYOND first", x.minutes(61), Due.BEYOND);
        due.is("minutes(39)", x.minutes(39), 2 * 99999);
        due.is("minutes(1) above 99999", x.minutes(1), Due.STATE);
        due.is("ALONE held", x.then(60, 1, 5), 99999);
        due.is("SORROW held", x.sorrow(60), 2 * 99999);
        due.is("MINUTES", x.count(2), 99999);
    }

    private static void termWithout() {
        BreakTime x = Due.children(5, 0);
        x.heap(1, 5);
        x.likes(0, 1, 10);
        x.likes(1, 0, 90);
        x.join(2, 0);
        x.join(3, 0);
        x.likes(2, 3, 50);
        x.likes(3, 2, 99);
        x.likes(0, 2, 7);
        x.likes(2, 0, 7);
        due.is("terms(1)", x.terms(1), 1);
        due.is("l less than o", x.likes(0, 1, 10), 11);
        due.is("l more than o", x.likes(1, 0, 90), 89);
        due.is("in one HEAP, less", x.likes(2, 3, 0), 52);
        due.is("in one HEAP, more", x.likes(3, 2, 0), 99);
        due.is("alike", x.likes(0, 2, 0), 7);
        due.is("alike back", x.likes(2, 0, 0), 7);
        due.is("both by the wall", x.likes(0, 4, 0), 0);
        x.likes(2, 3, 99);
        x.likes(3, 2, 99);
        x.terms(1);
        due.is("held at 99", x.likes(2, 3, 0), 99);
        x.likes(0, 1, 0);
        x.likes(1, 0, 20);
        due.is("terms(20)", x.terms(20), 22);
        due.is("ten TERMS to meet, then alike", x.likes(0, 1, 0), 10);
        due.is("ten TERMS to meet, back", x.likes(1, 0, 0), 10);
    }

    private static void termWith() {
        BreakTime x = Due.children(3, 0);
        x.likes(0, 1, 10);
        x.likes(1, 0, 90);
        x.likes(0, 2, 33);
        Due.text(x, 1, "o");
        x.terms(1);
        due.is("by what they were ahead", x.likes(0, 1, 90), 90);
        due.is("by what they were ahead, back", x.likes(1, 0, 10), 10);
        due.is("of 2", x.likes(2, 0, 33), 33);
        due.is("for 2", x.likes(0, 2, 0), 0);
        Due.text(x, 1, "l+10");
        x.terms(3);
        due.is("all move", x.likes(2, 1, 30), 30);
        due.is("held", x.likes(0, 1, 0), 99);
        x.untell(1);
        x.terms(1);
        due.is("untold", x.likes(2, 1, 0), 30);
    }

    private static void termsErrors() {
        BreakTime x = Due.children(2, 0);
        x.likes(0, 1, 50);
        due.is("terms(0)", x.terms(0), Due.BEYOND);
        due.is("terms(21)", x.terms(21), Due.BEYOND);
        for (int v : Due.FAR) {
            due.is("terms(far)", x.terms(v), Due.BEYOND);
        }
        due.is("TERMS", x.count(3), 0);
        for (int i = 1; i <= 49; i++) {
            due.is("terms(20)", x.terms(20), 20 * i);
        }
        String ahead = Due.state(x);
        due.is("terms(20) above 999", x.terms(20), Due.STATE);
        due.is("BEYOND ahead of STATE", x.terms(21), Due.BEYOND);
        due.same("after STATE", Due.state(x), ahead);
        due.is("terms(19)", x.terms(19), 999);
        due.is("terms(1) above 999", x.terms(1), Due.STATE);
        due.same("ERRORS", Due.errors(x), "8 0 2 0 0 0 ");
    }

    private static void seed() {
        BreakTime x = new BreakTime();
        due.is("seed(MIN)", x.seed(Integer.MIN_VALUE), 1);
        due.is("seed(LOW - 1)", x.seed(-1000001), Integer.MIN_VALUE);
        due.is("count(8)", x.count(8), -1000001);
        due.is("seed(5)", x.seed(5), -1000001);
        due.same("ERRORS", Due.errors(x), "0 0 0 0 0 0 ");
    }
}
