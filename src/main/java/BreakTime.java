import java.util.Arrays;

/**
 * Children in a yard, the heaps that let them in or not, the slips on which they name each other,
 * and what would become of them in breaks ahead.
 */
public final class BreakTime {
    private static final int LOW = -1000000;
    private static final int BEYOND = 1;
    private static final int NONE = 2;
    private static final int STATE = 3;
    private static final int FULL = 4;
    private static final int UNLIKE = 5;
    private static final int PARTED = 6;

    private static final int CHILDREN_MOST = 10;
    private static final int HEAPS_MOST = 5;
    private static final int SIZE_MOST = 10;
    private static final int NINETY_NINE = 99;
    private static final int ALONE_MOST = 99999;
    private static final int MINUTES_MOST = 99999;
    private static final int TERMS_MOST = 999;
    private static final int MINUTES_AT_ONCE = 60;
    private static final int TERMS_AT_ONCE = 20;
    private static final int FRIEND = 50;
    private static final int PATIENCE = 5;
    private static final int ON_A_SLIP = 3;
    private static final int WALL = -1;

    private static final int WAY = 0;
    private static final int ASKED = 1;
    private static final int WATCHED = 2;
    private static final int BROUGHT = 3;
    private static final int SENT = 4;
    private static final int BENCHED = 5;
    private static final int NUMBERED = 6;
    private static final int KINDS = 7;
    private static final int[] ABOVE = {WAY, WAY, WAY, WAY, ASKED, WATCHED, WAY};

    private static final int LIKES = 0;
    private static final int COMES = 1;
    private static final int SHUTS = 2;
    private static final int MOVES = 3;
    private static final int VOICES = 4;
    private static final int VOICE_DEPTH = 30;
    private static final int TRACE_MOST = 30;
    // a row a KIND, a number a VOICE; 0 where the KIND leaves the VOICE to the one above
    private static final int[] BODIES = {
        10, 11, 12, 13,
        20, 0, 0, 21,
        0, 30, 0, 0,
        0, 0, 40, 0,
        50, 0, 51, 0,
        0, 60, 0, 0,
        70, 71, 0, 0
    };

    private static final int LETS_IN_USE = 0;
    private static final int MOVES_USE = 1;
    private static final int USES = 2;
    private static final String LETS_IN_NAMES = "wrnxa";
    private static final String MOVES_NAMES = "lofh";
    private static final int NAMES_MOST = 5;
    private static final int TAPE_MOST = 60;
    private static final int OPEN_MOST = 5;
    private static final int DIGITS_MOST = 4;
    private static final int WORD_BYTES = 8;
    private static final int NO_FAULT = -1;
    private static final int FAULT_BASE = -10;

    private static final int SHEETS = 4;
    private static final int SHEET_MOST = 24;
    private static final int WAITING_MOST = 24;

    private final Yard now = new Yard();
    private final Yard ahead = new Yard();
    private final Yard kept = new Yard();
    private final Friends friends = new Friends();
    private final Reader reader = new Reader();
    private final Speaker speaker = new Speaker();
    private final Sheet[] sheets = new Sheet[SHEETS];
    private final int[] errors = new int[PARTED + 1];
    private int images;

    public BreakTime() {
        for (int i = 0; i < SHEETS; i++) {
            sheets[i] = new Sheet();
        }
    }

    // ---- children, heaps

    public int child(int km, int age, int mind) {
        if (outside(km, 0, KINDS * 100 - 1) || outside(age, 0, NINETY_NINE) || outside(mind, 0, 1)) {
            return error(BEYOND);
        }
        if (now.childCount >= CHILDREN_MOST) {
            return error(FULL);
        }
        Child made = now.children[now.childCount];
        made.kind = km / 100;
        made.m = km % 100;
        made.age = age;
        made.mind = mind;
        now.childCount++;
        return now.childCount - 1;
    }

    public int childIs(int child, int what) {
        if (noChild(child) || outside(what, 0, 7)) {
            return error(BEYOND);
        }
        return ofChild(now, child, what);
    }

    public int as(int child, int kind) {
        if (noChild(child) || outside(kind, 0, KINDS - 1)) {
            return error(BEYOND);
        }
        Child one = now.children[child];
        int own = one.kind;
        for (int up = 0; up < KINDS && own != kind && own != WAY; up++) {
            own = ABOVE[own];
        }
        return own == kind ? one.m : error(UNLIKE);
    }

    public int set(int child, int what, int v) {
        if (noChild(child) || outside(what, 0, 3) || outside(v, 0, mostOf(what))) {
            return error(BEYOND);
        }
        Child one = now.children[child];
        int was = ofChild(now, child, what);
        switch (what) {
            case 0: one.kind = v; break;
            case 1: one.m = v; break;
            case 2: one.age = v; break;
            default: one.mind = v; break;
        }
        return was;
    }

    public int likes(int one, int other, int v) {
        if (noChild(one) || noChild(other) || one == other || outside(v, 0, NINETY_NINE)) {
            return error(BEYOND);
        }
        int was = now.children[one].likes[other];
        now.children[one].likes[other] = v;
        return was;
    }

    public int heap(int least, int most) {
        if (outside(least, 1, SIZE_MOST) || outside(most, least, SIZE_MOST)) {
            return error(BEYOND);
        }
        if (now.heapCount >= HEAPS_MOST) {
            return error(FULL);
        }
        Heap made = now.heaps[now.heapCount];
        made.least = least;
        made.most = most;
        now.heapCount++;
        return now.heapCount - 1;
    }

    public int heapIs(int heap, int what) {
        if (noHeap(heap)) {
            return error(BEYOND);
        }
        Heap one = now.heaps[heap];
        switch (what) {
            case 0: return one.least;
            case 1: return one.most;
            case 2: return one.rule;
            case 3: return one.inside;
            case 4: return one.few;
            default: return error(BEYOND);
        }
    }

    public int rule(int heap, int v) {
        if (noHeap(heap) || outside(v, 0, NINETY_NINE)) {
            return error(BEYOND);
        }
        int was = now.heaps[heap].rule;
        now.heaps[heap].rule = v;
        return was;
    }

    public int join(int child, int heap) {
        if (noChild(child) || noHeap(heap)) {
            return error(BEYOND);
        }
        if (now.children[child].at == heap) {
            return error(STATE);
        }
        now.place(child, heap);
        return now.heaps[heap].size();
    }

    public int leave(int child) {
        if (noChild(child)) {
            return error(BEYOND);
        }
        int left = now.children[child].at;
        if (left == WALL) {
            return error(STATE);
        }
        now.place(child, WALL);
        return left;
    }

    public int between(int child, int heap, int what) {
        if (noChild(child) || noHeap(heap)) {
            return error(BEYOND);
        }
        switch (what) {
            case 0: return now.warmth(child, heap);
            case 1: return now.chance(child, heap);
            case 2: return now.children[child].watching[heap];
            default: return error(BEYOND);
        }
    }

    // ---- texts

    public int feed(long word, int n) {
        if (outside(n, 1, WORD_BYTES)) {
            return error(BEYOND);
        }
        if (now.tape.size + n > TAPE_MOST) {
            return error(FULL);
        }
        for (int i = 0; i < n; i++) {
            now.tape.add((int) (word >>> (8 * i)) & 255);
        }
        return now.tape.size;
    }

    public int text(int use) {
        if (outside(use, 0, USES - 1)) {
            return error(BEYOND);
        }
        int fault = reader.read(now.tape, use == LETS_IN_USE ? LETS_IN_NAMES : MOVES_NAMES);
        now.tape.size = 0;
        if (fault != NO_FAULT) {
            return FAULT_BASE - fault;
        }
        now.texts[use].takeFrom(reader.text);
        return 1;
    }

    public int untell(int use) {
        if (outside(use, 0, USES - 1)) {
            return error(BEYOND);
        }
        int was = now.texts[use].isThere() ? 1 : 0;
        now.texts[use].size = 0;
        return was;
    }

    // ---- minutes, terms

    public int minutes(int n) {
        if (outside(n, 1, MINUTES_AT_ONCE)) {
            return error(BEYOND);
        }
        if (now.minuteCount + n > MINUTES_MOST) {
            return error(STATE);
        }
        now.pass(n);
        return now.grief();
    }

    public int terms(int n) {
        if (outside(n, 1, TERMS_AT_ONCE)) {
            return error(BEYOND);
        }
        if (now.termCount + n > TERMS_MOST) {
            return error(STATE);
        }
        for (int i = 0; i < n; i++) {
            now.passTerm();
        }
        return now.termCount;
    }

    public int seed(int v) {
        int was = now.z;
        now.z = v;
        return was;
    }

    // ---- slips, rings

    public int both(int child) {
        if (noChild(child)) {
            return error(BEYOND);
        }
        friends.look(now);
        return friends.both[child];
    }

    public int ring(int child) {
        if (noChild(child)) {
            return error(BEYOND);
        }
        friends.look(now);
        return friends.ringOf(child);
    }

    public int net(int what) {
        if (outside(what, 0, 3)) {
            return error(BEYOND);
        }
        friends.look(now);
        switch (what) {
            case 0: return friends.countRings();
            case 1: return friends.countPairs();
            case 2: return friends.mostNamed();
            default: return friends.leftOut();
        }
    }

    // ---- ahead

    public int then(int n, int child, int what) {
        if (notAhead(n) || noChild(child) || outside(what, 0, 7)) {
            return error(BEYOND);
        }
        ahead.takeFrom(now);
        ahead.pass(n);
        return ofChild(ahead, child, what);
    }

    public int sorrow(int n) {
        if (notAhead(n)) {
            return error(BEYOND);
        }
        ahead.takeFrom(now);
        ahead.pass(n);
        return ahead.grief();
    }

    public int word(int child, int n) {
        if (noChild(child) || notAhead(n)) {
            return error(BEYOND);
        }
        if (now.children[child].at != WALL) {
            return error(STATE);
        }
        int bestFriend = -1;
        int leastGrief = 0;
        int triedHeaps = 0;
        for (int one = 0; one < now.childCount; one++) {
            int heap = now.children[one].at;
            // all in one HEAP would let the child into the same place: the least of them speaks for all
            if (heap != WALL && (triedHeaps >> heap & 1) == 0) {
                triedHeaps |= 1 << heap;
                ahead.takeFrom(now);
                ahead.place(child, heap);
                ahead.pass(n);
                int grief = ahead.grief();
                if (bestFriend < 0 || grief < leastGrief) {
                    bestFriend = one;
                    leastGrief = grief;
                }
            }
        }
        return bestFriend < 0 ? error(NONE) : bestFriend;
    }

    public int teach(int child, int n) {
        if (noChild(child) || notAhead(n)) {
            return error(BEYOND);
        }
        int bestKind = WAY;
        int leastAlone = 0;
        for (int kind = 0; kind < KINDS; kind++) {
            ahead.takeFrom(now);
            ahead.children[child].kind = kind;
            ahead.pass(n);
            int alone = ahead.children[child].alone;
            if (kind == WAY || alone < leastAlone) {
                bestKind = kind;
                leastAlone = alone;
            }
        }
        return bestKind;
    }

    public int classes(int what) {
        if (outside(what, 0, 1)) {
            return error(BEYOND);
        }
        if (now.childCount < 2) {
            return error(NONE);
        }
        friends.look(now);
        int second = friends.secondClass();
        return what == 0 ? second : friends.countLonely(second);
    }

    public int best(int child) {
        if (noChild(child)) {
            return error(BEYOND);
        }
        if (now.heapCount == 0) {
            return error(NONE);
        }
        return now.bestHeap(child);
    }

    // ---- voices, sheets, images, what is told

    public int voice(int child, int voice, int x) {
        if (noChild(child) || outside(voice, 0, VOICES - 1)) {
            return error(BEYOND);
        }
        int said = speaker.speak(child, now.children[child], voice, x);
        return speaker.parted ? error(PARTED) : said;
    }

    public int body(int i) {
        if (outside(i, 0, speaker.trace.size - 1)) {
            return error(NONE);
        }
        return speaker.trace.numbers[i];
    }

    public int sheet(int sheet, int bits, int n) {
        if (noSheet(sheet) || (bits != 0 && bits != 8 && bits != 16 && bits != 32)) {
            return error(BEYOND);
        }
        if (bits == 0) {
            sheets[sheet].lay(0, 0);
            return 1;
        }
        if (n < 0) {
            return error(STATE);
        }
        if (n > SHEET_MOST) {
            return error(BEYOND);
        }
        sheets[sheet].lay(bits, n);
        return 1;
    }

    public int put(int sheet, int i, int v) {
        if (noSheet(sheet)) {
            return error(BEYOND);
        }
        Sheet one = sheets[sheet];
        if (one.isMissing()) {
            return error(NONE);
        }
        if (outside(i, 0, one.size - 1)) {
            return error(BEYOND);
        }
        one.write(i, v);
        return 1;
    }

    public int move(int sheet, int i, int other, int j, int n) {
        if (noSheet(sheet) || noSheet(other)) {
            return error(BEYOND);
        }
        Sheet from = sheets[sheet];
        Sheet to = sheets[other];
        if (from.isMissing() || to.isMissing()) {
            return error(NONE);
        }
        if (from.bits != to.bits) {
            return error(UNLIKE);
        }
        if (!from.holds(i, n) || !to.holds(j, n)) {
            return error(BEYOND);
        }
        System.arraycopy(from.numbers, i, to.numbers, j, n);
        return n;
    }

    public int slips(int sheet, int child) {
        if (noSheet(sheet) || noChild(child)) {
            return error(BEYOND);
        }
        Sheet read = sheets[sheet];
        if (read.isMissing()) {
            return error(NONE);
        }
        int end = Math.min(read.size, now.childCount);
        for (int other = 0; other < end; other++) {
            int v = read.numbers[other];
            if (other != child) {
                if (outside(v, 0, NINETY_NINE)) {
                    return other;
                }
                now.children[child].likes[other] = v;
            }
        }
        return end;
    }

    public int film(int sheet, int n) {
        if (noSheet(sheet) || notAhead(n)) {
            return error(BEYOND);
        }
        Sheet shown = sheets[sheet];
        if (shown.isMissing()) {
            return error(NONE);
        }
        ahead.takeFrom(now);
        ahead.pass(n);
        int end = Math.min(shown.size, ahead.childCount);
        for (int child = 0; child < end; child++) {
            if (shown.numbers[child] != ahead.children[child].at) {
                return child;
            }
        }
        return end;
    }

    public int image() {
        kept.takeFrom(now);
        images++;
        return images;
    }

    public int restore() {
        if (images == 0) {
            return error(NONE);
        }
        now.takeFrom(kept);
        return now.minuteCount;
    }

    public int tell(int v) {
        if (now.waiting.size >= WAITING_MOST) {
            return error(FULL);
        }
        now.waiting.add(v);
        return now.waiting.size;
    }

    public int check(int heap) {
        int told = now.waiting.size;
        now.waiting.size = 0;
        if (noHeap(heap)) {
            return error(BEYOND);
        }
        int inside = now.heaps[heap].inside;
        int place = 0;
        for (int child = 0; child < now.childCount; child++) {
            if ((inside >> child & 1) != 0) {
                if (place >= told || now.waiting.numbers[place] != child) {
                    return 1 + place;
                }
                place++;
            }
        }
        return place < told ? 1 + place : 0;
    }

    public int count(int what) {
        switch (what) {
            case 0: return now.childCount;
            case 1: return now.heapCount;
            case 2: return now.minuteCount;
            case 3: return now.termCount;
            case 4: return now.wall();
            case 5: return now.tape.size;
            case 6: return now.waiting.size;
            case 7: return speaker.trace.size;
            case 8: return now.z;
            default: return error(BEYOND);
        }
    }

    public int told(int k) {
        return outside(k, BEYOND, PARTED) ? error(BEYOND) : errors[k];
    }

    // ---- what the calls share

    private int error(int k) {
        errors[k]++;
        return LOW - k;
    }

    private boolean noChild(int child) {
        return outside(child, 0, now.childCount - 1);
    }

    private boolean noHeap(int heap) {
        return outside(heap, 0, now.heapCount - 1);
    }

    private static boolean noSheet(int sheet) {
        return outside(sheet, 0, SHEETS - 1);
    }

    private static boolean notAhead(int n) {
        return outside(n, 0, MINUTES_AT_ONCE);
    }

    private static boolean outside(int v, int least, int most) {
        return v < least || v > most;
    }

    private static int held(int v, int least, int most) {
        return Math.max(least, Math.min(most, v));
    }

    private static int mostOf(int what) {
        switch (what) {
            case 0: return KINDS - 1;
            case 3: return 1;
            default: return NINETY_NINE;
        }
    }

    private int ofChild(Yard yard, int child, int what) {
        Child one = yard.children[child];
        switch (what) {
            case 0: return one.kind;
            case 1: return one.m;
            case 2: return one.age;
            case 3: return one.mind;
            case 4: return one.at;
            case 5: return one.alone;
            default: break;
        }
        friends.look(yard);
        return what == 6 ? friends.slip[child] : friends.countNaming(child);
    }

    /** A child, with what it feels for the others and how long it has stood by each HEAP. */
    private static final class Child {
        int kind;
        int m;
        int age;
        int mind;
        int at = WALL;
        int alone;
        final int[] likes = new int[CHILDREN_MOST];
        final int[] watching = new int[HEAPS_MOST];

        void takeFrom(Child other) {
            kind = other.kind;
            m = other.m;
            age = other.age;
            mind = other.mind;
            at = other.at;
            alone = other.alone;
            System.arraycopy(other.likes, 0, likes, 0, CHILDREN_MOST);
            System.arraycopy(other.watching, 0, watching, 0, HEAPS_MOST);
        }
    }

    /** A HEAP, with those in it as bits. */
    private static final class Heap {
        int least;
        int most;
        int rule = 30;
        int inside;
        int few;

        int size() {
            return Integer.bitCount(inside);
        }

        boolean lacksOne() {
            int then = Integer.bitCount(inside) + 1;
            return then == least || then == most;
        }

        boolean hasTooFew() {
            return inside != 0 && size() < least;
        }

        void change(int nowInside) {
            inside = nowInside;
            // the count is 0 whenever there are enough or none, so also between two MINUTES
            if (!hasTooFew()) {
                few = 0;
            }
        }

        void takeFrom(Heap other) {
            least = other.least;
            most = other.most;
            rule = other.rule;
            inside = other.inside;
            few = other.few;
        }
    }

    /** All that an IMAGE keeps; a second one serves to look AHEAD without a change to the first. */
    private static final class Yard {
        final Child[] children = new Child[CHILDREN_MOST];
        final Heap[] heaps = new Heap[HEAPS_MOST];
        final Text[] texts = new Text[USES];
        final Row tape = new Row(TAPE_MOST);
        final Row waiting = new Row(WAITING_MOST);
        int childCount;
        int heapCount;
        int minuteCount;
        int termCount;
        int z = 1;
        // rows that are only used within one call, made once to spare the room
        final int[] names = new int[NAMES_MOST];
        final int[][] moved = new int[CHILDREN_MOST][CHILDREN_MOST];

        Yard() {
            for (int i = 0; i < CHILDREN_MOST; i++) {
                children[i] = new Child();
            }
            for (int i = 0; i < HEAPS_MOST; i++) {
                heaps[i] = new Heap();
            }
            for (int i = 0; i < USES; i++) {
                texts[i] = new Text();
            }
        }

        void takeFrom(Yard other) {
            // beyond the counts too: a restored yard must have untouched children and heaps to give out
            for (int i = 0; i < CHILDREN_MOST; i++) {
                children[i].takeFrom(other.children[i]);
            }
            for (int i = 0; i < HEAPS_MOST; i++) {
                heaps[i].takeFrom(other.heaps[i]);
            }
            for (int i = 0; i < USES; i++) {
                texts[i].takeFrom(other.texts[i]);
            }
            tape.takeFrom(other.tape);
            waiting.takeFrom(other.waiting);
            childCount = other.childCount;
            heapCount = other.heapCount;
            minuteCount = other.minuteCount;
            termCount = other.termCount;
            z = other.z;
        }

        int wall() {
            int bits = 0;
            for (int i = 0; i < childCount; i++) {
                if (children[i].at == WALL) {
                    bits |= 1 << i;
                }
            }
            return bits;
        }

        int grief() {
            int sum = 0;
            for (int i = 0; i < childCount; i++) {
                if (children[i].mind == 1) {
                    sum += children[i].alone;
                }
            }
            return sum;
        }

        void place(int child, int heap) {
            Child one = children[child];
            if (one.at != WALL) {
                Heap left = heaps[one.at];
                left.change(left.inside & ~(1 << child));
            }
            if (heap != WALL) {
                heaps[heap].change(heaps[heap].inside | 1 << child);
            }
            one.at = heap;
            Arrays.fill(one.watching, 0);
        }

        int warmth(int child, int heap) {
            int others = heaps[heap].inside & ~(1 << child);
            if (others == 0) {
                return 0;
            }
            int sum = 0;
            for (int i = 0; i < childCount; i++) {
                if ((others >> i & 1) != 0) {
                    sum += children[i].likes[child];
                }
            }
            return sum / Integer.bitCount(others);
        }

        int fondest(int child, int heap) {
            int others = heaps[heap].inside & ~(1 << child);
            int most = 0;
            for (int i = 0; i < childCount; i++) {
                if ((others >> i & 1) != 0) {
                    most = Math.max(most, children[i].likes[child]);
                }
            }
            return most;
        }

        boolean hasFriend(int child, int heap) {
            int others = heaps[heap].inside & ~(1 << child);
            for (int i = 0; i < childCount; i++) {
                if ((others >> i & 1) != 0 && children[child].likes[i] >= FRIEND) {
                    return true;
                }
            }
            return false;
        }

        int chance(int child, int heap) {
            Heap tried = heaps[heap];
            if (tried.size() >= tried.most) {
                return 0;
            }
            int warmth = warmth(child, heap);
            int own = byWay(child, heap, warmth - tried.rule + 50);
            return held(own + letsIn(child, heap, warmth), 0, 100);
        }

        int byWay(int child, int heap, int plain) {
            Child one = children[child];
            int watched = plain + one.m * one.watching[heap];
            switch (one.kind) {
                case ASKED: return plain - one.m;
                case WATCHED: return watched;
                case BROUGHT: return plain + fondest(child, heap) / 2;
                case SENT: return (plain - one.m) / 2;
                case BENCHED: return hasFriend(child, heap) ? watched : watched + 10;
                case NUMBERED: return heaps[heap].lacksOne() ? 100 : plain - one.m;
                default: return plain;
            }
        }

        int letsIn(int child, int heap, int warmth) {
            Text text = texts[LETS_IN_USE];
            if (!text.isThere()) {
                return 0;
            }
            Heap tried = heaps[heap];
            names[0] = warmth;
            names[1] = tried.rule;
            names[2] = tried.size();
            names[3] = children[child].watching[heap];
            names[4] = 0;
            if (tried.inside != 0) {
                int least = Integer.numberOfTrailingZeros(tried.inside);
                names[4] = Math.abs(children[child].age - children[least].age);
            }
            return held(text.worth(names), -100, 100);
        }

        int bestHeap(int child) {
            int best = WALL;
            int most = -1;
            for (int heap = 0; heap < heapCount; heap++) {
                int chance = chance(child, heap);
                if (chance > most) {
                    best = heap;
                    most = chance;
                }
            }
            return best;
        }

        void pass(int n) {
            for (int i = 0; i < n; i++) {
                for (int child = 0; child < childCount; child++) {
                    if (children[child].at == WALL) {
                        tryHeap(child);
                    }
                }
                for (int heap = 0; heap < heapCount; heap++) {
                    wearOut(heap);
                }
                minuteCount++;
            }
        }

        void tryHeap(int child) {
            Child one = children[child];
            int heap = bestHeap(child);
            if (heap != WALL) {
                one.watching[heap] = Math.min(one.watching[heap] + 1, NINETY_NINE);
                int chance = chance(child, heap);
                z = z * 1103515245 + 12345;
                if ((z >>> 8) % 100 < chance) {
                    place(child, heap);
                    return;
                }
            }
            one.alone = Math.min(one.alone + 1, ALONE_MOST);
        }

        void wearOut(int heap) {
            Heap one = heaps[heap];
            if (!one.hasTooFew()) {
                return;
            }
            one.few++;
            if (one.few < PATIENCE) {
                return;
            }
            for (int child = 0; child < childCount; child++) {
                if (children[child].at == heap) {
                    place(child, WALL);
                }
            }
        }

        void passTerm() {
            // all by what they were ahead of it: nobody's new LIKES may be seen by the next one
            for (int one = 0; one < childCount; one++) {
                for (int other = 0; other < childCount; other++) {
                    moved[one][other] = one == other ? 0 : held(likesThen(one, other), 0, NINETY_NINE);
                }
            }
            for (int one = 0; one < childCount; one++) {
                System.arraycopy(moved[one], 0, children[one].likes, 0, childCount);
            }
            termCount++;
        }

        int likesThen(int one, int other) {
            int l = children[one].likes[other];
            int o = children[other].likes[one];
            int at = children[one].at;
            int h = at != WALL && at == children[other].at ? 1 : 0;
            Text text = texts[MOVES_USE];
            if (!text.isThere()) {
                return l + Integer.compare(o, l) + h;
            }
            names[0] = l;
            names[1] = o;
            names[2] = countShared(one, other);
            names[3] = h;
            return text.worth(names);
        }

        int countShared(int one, int other) {
            int shared = 0;
            for (int i = 0; i < childCount; i++) {
                if (i != one && i != other
                        && children[one].likes[i] >= FRIEND && children[other].likes[i] >= FRIEND) {
                    shared++;
                }
            }
            return shared;
        }
    }

    /** The SLIPS of a yard, and who hangs together by them. */
    private static final class Friends {
        int n;
        int minding;
        final int[] slip = new int[CHILDREN_MOST];
        final int[] both = new int[CHILDREN_MOST];

        void look(Yard yard) {
            n = yard.childCount;
            minding = 0;
            for (int i = 0; i < n; i++) {
                slip[i] = slipOf(yard.children[i].likes);
                minding |= yard.children[i].mind << i;
            }
            for (int i = 0; i < n; i++) {
                both[i] = slip[i] & naming(i);
            }
        }

        int slipOf(int[] likes) {
            int named = 0;
            for (int turn = 0; turn < ON_A_SLIP; turn++) {
                int dearest = -1;
                int most = 0;
                for (int i = 0; i < n; i++) {
                    if ((named >> i & 1) == 0 && likes[i] > most) {
                        dearest = i;
                        most = likes[i];
                    }
                }
                if (dearest >= 0) {
                    named |= 1 << dearest;
                }
            }
            return named;
        }

        int naming(int child) {
            int bits = 0;
            for (int i = 0; i < n; i++) {
                bits |= (slip[i] >> child & 1) << i;
            }
            return bits;
        }

        int countNaming(int child) {
            return Integer.bitCount(naming(child));
        }

        int ringOf(int child) {
            int ring = 1 << child;
            // the ring grows by one at least each turn, or stands
            for (int turn = 0; turn < n; turn++) {
                for (int i = 0; i < n; i++) {
                    if ((ring >> i & 1) != 0) {
                        ring |= both[i];
                    }
                }
            }
            return ring;
        }

        int countRings() {
            int rings = 0;
            for (int i = 0; i < n; i++) {
                if (Integer.numberOfTrailingZeros(ringOf(i)) == i) {
                    rings++;
                }
            }
            return rings;
        }

        int countPairs() {
            int ends = 0;
            for (int i = 0; i < n; i++) {
                ends += Integer.bitCount(both[i]);
            }
            return ends / 2;
        }

        int mostNamed() {
            int most = 0;
            for (int i = 0; i < n; i++) {
                most = Math.max(most, countNaming(i));
            }
            return most;
        }

        int leftOut() {
            int named = 0;
            for (int i = 0; i < n; i++) {
                named |= slip[i];
            }
            return minding & ~named;
        }

        int secondClass() {
            int bestSet = -1;
            int leastLonely = 0;
            // child 0 is in the first class: even sets alone
            for (int set = 0; set < 1 << n; set += 2) {
                int second = Integer.bitCount(set);
                if (second >= n / 2 && n - second >= n / 2) {
                    int lonely = countLonely(set);
                    if (bestSet < 0 || lonely < leastLonely) {
                        bestSet = set;
                        leastLonely = lonely;
                    }
                }
            }
            return bestSet;
        }

        int countLonely(int second) {
            int lonely = 0;
            for (int i = 0; i < n; i++) {
                int own = (second >> i & 1) != 0 ? second : ~second;
                if ((minding >> i & 1) != 0 && (both[i] & own) == 0) {
                    lonely++;
                }
            }
            return lonely;
        }
    }

    /** Numbers one behind the other, up to a bound. */
    private static final class Row {
        final int[] numbers;
        int size;

        Row(int most) {
            numbers = new int[Math.max(0, most)];
        }

        void add(int v) {
            if (size < numbers.length) {
                numbers[size] = v;
                size++;
            }
        }

        void takeFrom(Row other) {
            size = Math.min(other.size, numbers.length);
            System.arraycopy(other.numbers, 0, numbers, 0, size);
        }
    }

    /** A TEXT as a row of steps, what is joined ahead of the sign that joins it; none: no TEXT. */
    private static final class Text {
        static final int NAME = 10000;
        static final int SIGN = 20000;

        final int[] steps = new int[TAPE_MOST];
        // each step lays down one number at most
        final int[] laid = new int[TAPE_MOST];
        int size;

        boolean isThere() {
            return size > 0;
        }

        void add(int step) {
            if (size < TAPE_MOST) {
                steps[size] = step;
                size++;
            }
        }

        void takeFrom(Text other) {
            size = other.size;
            System.arraycopy(other.steps, 0, steps, 0, size);
        }

        int worth(int[] names) {
            int top = -1;
            for (int i = 0; i < size; i++) {
                int step = steps[i];
                if (step < SIGN) {
                    top++;
                    laid[top] = step < NAME ? step : named(names, step - NAME);
                } else if (step == SIGN + '!') {
                    if (top >= 0) {
                        laid[top] = laid[top] == 0 ? 1 : 0;
                    }
                } else if (top >= 1) {
                    top--;
                    laid[top] = apply(step - SIGN, laid[top], laid[top + 1]);
                }
            }
            return top >= 0 ? laid[top] : 0;
        }

        static int named(int[] names, int i) {
            return i >= 0 && i < names.length ? names[i] : 0;
        }

        static int apply(int sign, int a, int b) {
            switch (sign) {
                case '|': return a != 0 || b != 0 ? 1 : 0;
                case '&': return a != 0 && b != 0 ? 1 : 0;
                case '<': return a < b ? 1 : 0;
                case '=': return a == b ? 1 : 0;
                case '>': return a > b ? 1 : 0;
                case '+': return a + b;
                case '-': return a - b;
                case '*': return a * b;
                case '/': return b == 0 ? 0 : a / b;
                case '%': return b == 0 ? 0 : a % b;
                default: return 0;
            }
        }
    }

    /** Reads THE TAPE into a TEXT; where a reading fails, it stands at the FAULT. */
    private static final class Reader {
        // T, A, B, S, P of the document; what is below the last one is a Q
        static final int LEVELS = 5;
        static final int COMPARING = 2;

        final Text text = new Text();
        int[] bytes = new int[0];
        int end;
        int at;
        String names = "";

        int read(Row tape, String known) {
            text.size = 0;
            bytes = tape.numbers;
            end = tape.size;
            at = 0;
            names = known;
            return readJoined(0, 0) && at == end ? NO_FAULT : at;
        }

        int next() {
            return at < end ? bytes[at] : -1;
        }

        boolean stands(String signs) {
            int sign = next();
            return sign >= 0 && signs.indexOf((char) sign) >= 0;
        }

        boolean readJoined(int level, int open) {
            if (level >= LEVELS) {
                return readQ(open);
            }
            boolean fits = readJoined(level + 1, open);
            int joints = level == COMPARING ? 1 : TAPE_MOST;
            for (int joint = 0; joint < joints && fits && stands(signsOf(level)); joint++) {
                int sign = next();
                at++;
                fits = readJoined(level + 1, open);
                text.add(Text.SIGN + sign);
            }
            return fits;
        }

        static String signsOf(int level) {
            switch (level) {
                case 0: return "|";
                case 1: return "&";
                case COMPARING: return "<=>";
                case 3: return "+-";
                default: return "*/%";
            }
        }

        boolean readQ(int open) {
            if (isDigit(next())) {
                readNumber();
                return true;
            }
            if (stands(names)) {
                text.add(Text.NAME + names.indexOf((char) next()));
                at++;
                return true;
            }
            if (open >= OPEN_MOST || !stands("!(")) {
                return false;
            }
            boolean denied = next() == '!';
            at++;
            if (denied) {
                boolean fits = readQ(open + 1);
                text.add(Text.SIGN + '!');
                return fits;
            }
            if (!readJoined(0, open + 1) || !stands(")")) {
                return false;
            }
            at++;
            return true;
        }

        void readNumber() {
            int number = 0;
            for (int i = 0; i < DIGITS_MOST && isDigit(next()); i++) {
                number = number * 10 + next() - '0';
                at++;
            }
            text.add(number);
        }

        static boolean isDigit(int sign) {
            return sign >= '0' && sign <= '9';
        }
    }

    /** Speaks the VOICES of a WAY and keeps THE TRACE of the BODIES that began. */
    private static final class Speaker {
        final Row trace = new Row(TRACE_MOST);
        int child;
        int kind;
        int m;
        boolean parted;

        int speak(int number, Child one, int voice, int x) {
            trace.size = 0;
            parted = false;
            child = number;
            kind = one.kind;
            m = one.m;
            return say(voice, kind, x, 0);
        }

        int say(int voice, int from, int x, int depth) {
            // what parted ends all that has begun: nothing begins behind it
            if (parted || depth > VOICE_DEPTH) {
                return 0;
            }
            int owner = from;
            for (int up = 0; up < KINDS && BODIES[owner * VOICES + voice] == 0; up++) {
                owner = ABOVE[owner];
            }
            int body = BODIES[owner * VOICES + voice];
            int above = ABOVE[owner];
            int next = depth + 1;
            trace.add(body);
            switch (body) {
                case 10: return x + child;
                case 11: return say(LIKES, kind, x, next) * 2;
                case 12: return say(COMES, kind, x, next) - m;
                case 13: return part(x, m - child);
                case 20: return say(LIKES, above, x, next) - 6;
                case 21: return say(MOVES, above, x, next) + say(COMES, kind, 1, next);
                case 30: return 0 - say(COMES, above, x, next);
                case 40: return say(SHUTS, above, x / 2, next);
                case 50: return say(LIKES, above, x, next) * 3;
                case 51: return say(SHUTS, above, x, next) ^ child;
                case 60: return say(COMES, above, x + 1, next);
                case 70: return 5;
                case 71: return say(COMES, above, x, next) + m;
                default: return 0;
            }
        }

        int part(int x, int by) {
            if (by == 0) {
                parted = true;
                return 0;
            }
            return x / by;
        }
    }

    /** A SHEET: numbers of so many bits; of 0 bits: it is missing. */
    private static final class Sheet {
        int bits;
        int size;
        final int[] numbers = new int[SHEET_MOST];

        boolean isMissing() {
            return bits == 0;
        }

        void lay(int newBits, int newSize) {
            bits = newBits;
            size = newSize;
            Arrays.fill(numbers, 0);
        }

        void write(int i, int v) {
            switch (bits) {
                case 8: numbers[i] = (byte) v; break;
                case 16: numbers[i] = (short) v; break;
                default: numbers[i] = v; break;
            }
        }

        boolean holds(int i, int n) {
            // n is looked at alone first, so that what is taken from size can't wrap
            return n >= 0 && n <= size && i >= 0 && i <= size - n;
        }
    }
}
