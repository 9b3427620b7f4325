import java.util.ArrayList;
import java.util.List;

/**
 * The document once more, in another form, slow and plain: what ManyRunsTest holds against the
 * class. No code is shared with BreakTime, and every look AHEAD copies the whole yard.
 */
public final class Plain {
    private static final int[] PARENT = {-1, 0, 0, 0, 1, 2, 0};

    private Yard yard = new Yard();
    private Yard image;
    private int images;
    private final int[][] sheetNumbers = new int[4][];
    private final int[] sheetBits = new int[4];
    private List<Integer> trace = new ArrayList<>();
    private final int[] told = new int[7];

    /** All that an IMAGE keeps. */
    private static final class Yard {
        final List<int[]> children = new ArrayList<>(); // kind, m, age, mind, heap, alone
        final List<int[]> heaps = new ArrayList<>(); // least, most, rule, few
        final int[][] likes = new int[10][10];
        final int[][] watching = new int[10][5];
        final String[] texts = new String[2];
        String tape = "";
        List<Integer> waiting = new ArrayList<>();
        int minutes;
        int terms;
        int z = 1;

        Yard copy() {
            Yard c = new Yard();
            for (int[] child : children) {
                c.children.add(child.clone());
            }
            for (int[] heap : heaps) {
                c.heaps.add(heap.clone());
            }
            for (int i = 0; i < 10; i++) {
                c.likes[i] = likes[i].clone();
                c.watching[i] = watching[i].clone();
            }
            c.texts[0] = texts[0];
            c.texts[1] = texts[1];
            c.tape = tape;
            c.waiting = new ArrayList<>(waiting);
            c.minutes = minutes;
            c.terms = terms;
            c.z = z;
            return c;
        }

        List<Integer> inside(int heap) {
            List<Integer> those = new ArrayList<>();
            for (int i = 0; i < children.size(); i++) {
                if (children.get(i)[4] == heap) {
                    those.add(i);
                }
            }
            return those;
        }

        int bits(int heap) {
            int bits = 0;
            for (int i : inside(heap)) {
                bits += 1 << i;
            }
            return bits;
        }

        /** "It is 0 whenever there are LEAST or more, or none." */
        void settle() {
            for (int h = 0; h < heaps.size(); h++) {
                int n = inside(h).size();
                if (n == 0 || n >= heaps.get(h)[0]) {
                    heaps.get(h)[3] = 0;
                }
            }
        }

        void move(int child, int heap) {
            children.get(child)[4] = heap;
            watching[child] = new int[5];
            settle();
        }

        int warmth(int child, int heap) {
            int sum = 0;
            int n = 0;
            for (int i : inside(heap)) {
                if (i != child) {
                    sum += likes[i][child];
                    n++;
                }
            }
            return n == 0 ? 0 : sum / n;
        }

        int chance(int child, int heap) {
            List<Integer> in = inside(heap);
            int[] h = heaps.get(heap);
            int[] c = children.get(child);
            if (in.size() >= h[1]) {
                return 0;
            }
            int way = warmth(child, heap) - h[2] + 50;
            int asked = way - c[1];
            int watched = way + c[1] * watching[child][heap];
            int dearest = 0;
            boolean likesOne = false;
            for (int i : in) {
                if (i != child) {
                    dearest = Math.max(dearest, likes[i][child]);
                    likesOne |= likes[child][i] >= 50;
                }
            }
            int[] chances = {way, asked, watched, way + dearest / 2, asked / 2, watched + (likesOne ? 0 : 10), asked};
            int chance = chances[c[0]];
            if (c[0] == 6 && (in.size() + 1 == h[0] || in.size() + 1 == h[1])) {
                chance = 100;
            }
            if (texts[0] != null) {
                int age = in.isEmpty() ? 0 : Math.abs(c[2] - children.get(in.get(0))[2]);
                int[] names = {warmth(child, heap), h[2], in.size(), watching[child][heap], age};
                chance += hold(new Worth(texts[0], "wrnxa", names).whole(), -100, 100);
            }
            return hold(chance, 0, 100);
        }

        int best(int child) {
            int best = -1;
            for (int h = 0; h < heaps.size(); h++) {
                if (best < 0 || chance(child, h) > chance(child, best)) {
                    best = h;
                }
            }
            return best;
        }

        Yard after(int n) {
            Yard then = copy();
            for (int i = 0; i < n; i++) {
                then.minute();
            }
            return then;
        }

        void minute() {
            for (int i = 0; i < children.size(); i++) {
                if (children.get(i)[4] == -1 && !comesIn(i)) {
                    children.get(i)[5] = Math.min(99999, children.get(i)[5] + 1);
                }
            }
            for (int h = 0; h < heaps.size(); h++) {
                int n = inside(h).size();
                if (n > 0 && n < heaps.get(h)[0]) {
                    heaps.get(h)[3]++;
                    if (heaps.get(h)[3] == 5) {
                        for (int i : inside(h)) {
                            move(i, -1);
                        }
                    }
                }
            }
            minutes++;
        }

        boolean comesIn(int child) {
            int heap = best(child);
            if (heap < 0) {
                return false;
            }
            watching[child][heap] = Math.min(99, watching[child][heap] + 1);
            z = z * 1103515245 + 12345;
            if ((z >>> 8) % 100 >= chance(child, heap)) {
                return false;
            }
            move(child, heap);
            return true;
        }

        void term() {
            int[][] next = new int[10][10];
            for (int i = 0; i < children.size(); i++) {
                for (int j = 0; j < children.size(); j++) {
                    if (i != j) {
                        next[i][j] = hold(moved(i, j), 0, 99);
                    }
                }
            }
            for (int i = 0; i < 10; i++) {
                likes[i] = next[i];
            }
            terms++;
        }

        int moved(int i, int j) {
            int l = likes[i][j];
            int o = likes[j][i];
            int f = 0;
            for (int k = 0; k < children.size(); k++) {
                if (k != i && k != j && likes[i][k] >= 50 && likes[j][k] >= 50) {
                    f++;
                }
            }
            int h = children.get(i)[4] >= 0 && children.get(i)[4] == children.get(j)[4] ? 1 : 0;
            if (texts[1] != null) {
                return new Worth(texts[1], "lofh", new int[] {l, o, f, h}).whole();
            }
            return l + (o > l ? 1 : 0) - (o < l ? 1 : 0) + h;
        }

        int sorrow() {
            int sum = 0;
            for (int[] c : children) {
                sum += c[3] == 1 ? c[5] : 0;
            }
            return sum;
        }

        int slip(int child) {
            List<Integer> liked = new ArrayList<>();
            for (int i = 0; i < children.size(); i++) {
                if (i != child && likes[child][i] >= 1) {
                    liked.add(i);
                }
            }
            // a stable order: of like ones the least number stays ahead
            liked.sort((a, b) -> likes[child][b] - likes[child][a]);
            int bits = 0;
            for (int i = 0; i < Math.min(3, liked.size()); i++) {
                bits |= 1 << liked.get(i);
            }
            return bits;
        }

        boolean names(int one, int other) {
            return (slip(one) & 1 << other) != 0;
        }

        int named(int child) {
            int n = 0;
            for (int i = 0; i < children.size(); i++) {
                n += names(i, child) ? 1 : 0;
            }
            return n;
        }

        int both(int child) {
            int bits = 0;
            for (int i = 0; i < children.size(); i++) {
                bits |= names(i, child) && names(child, i) ? 1 << i : 0;
            }
            return bits;
        }

        int ring(int child) {
            int ring = 1 << child;
            for (int again = 0; again < 11; again++) {
                for (int i = 0; i < children.size(); i++) {
                    ring |= (both(i) & ring) != 0 ? 1 << i : 0;
                }
            }
            return ring;
        }

        int ofChild(int child, int what) {
            if (what <= 5) {
                return children.get(child)[what];
            }
            return what == 6 ? slip(child) : named(child);
        }
    }

    /** Works a well-formed TEXT out, sign by sign. */
    private static final class Worth {
        final String text;
        final String known;
        final int[] names;
        int at;

        Worth(String text, String known, int[] names) {
            this.text = text;
            this.known = known;
            this.names = names;
        }

        int whole() {
            at = 0;
            return t();
        }

        char next() {
            return at < text.length() ? text.charAt(at) : '$';
        }

        int t() {
            int v = a();
            while (next() == '|') {
                at++;
                int w = a();
                v = v != 0 | w != 0 ? 1 : 0;
            }
            return v;
        }

        int a() {
            int v = b();
            while (next() == '&') {
                at++;
                int w = b();
                v = v != 0 & w != 0 ? 1 : 0;
            }
            return v;
        }

        int b() {
            int v = s();
            char sign = next();
            if (sign == '<' || sign == '=' || sign == '>') {
                at++;
                int w = s();
                int c = Integer.compare(v, w);
                return c == (sign == '<' ? -1 : sign == '=' ? 0 : 1) ? 1 : 0;
            }
            return v;
        }

        int s() {
            int v = p();
            while (next() == '+' || next() == '-') {
                boolean plus = next() == '+';
                at++;
                int w = p();
                v = plus ? v + w : v - w;
            }
            return v;
        }

        int p() {
            int v = q();
            while (next() == '*' || next() == '/' || next() == '%') {
                char sign = next();
                at++;
                long w = q();
                if (sign == '*') {
                    v = (int) (v * w);
                } else if (w == 0) {
                    v = 0;
                } else {
                    v = (int) (sign == '/' ? v / w : v % w);
                }
            }
            return v;
        }

        int q() {
            char sign = next();
            if (sign == '!') {
                at++;
                return q() == 0 ? 1 : 0;
            }
            if (sign == '(') {
                at++;
                int v = t();
                at++;
                return v;
            }
            if (known.indexOf(sign) >= 0) {
                at++;
                return names[known.indexOf(sign)];
            }
            int from = at;
            while (next() >= '0' && next() <= '9') {
                at++;
            }
            return Integer.parseInt(text.substring(from, at));
        }
    }

    /**
     * The FAULT of a TEXT, by what may stand next; -1: none. What is open is a word of ! and (, and
     * of [ for a ( in whose B a sign of < = > stood already.
     */
    private static int fault(String text, String known) {
        StringBuilder open = new StringBuilder();
        boolean compared = false;
        boolean wanted = true;
        int digits = 0;
        for (int i = 0; i < text.length(); i++) {
            char sign = text.charAt(i);
            boolean digit = sign >= '0' && sign <= '9';
            if (digits > 0 && digit && digits < 4) {
                digits++;
                continue;
            }
            digits = 0;
            if (wanted) {
                if ((sign == '!' || sign == '(') && open.length() < 5) {
                    open.append(sign == '!' ? '!' : compared ? '[' : '(');
                    compared = sign == '!' && compared;
                    continue;
                }
                if (!digit && (sign == '$' || known.indexOf(sign) < 0)) {
                    return i;
                }
                digits = digit ? 1 : 0;
                wanted = false;
            } else if (sign == ')' && open.length() > 0) {
                compared = open.charAt(open.length() - 1) == '[';
                open.setLength(open.length() - 1);
            } else if ("<=>".indexOf(sign) >= 0 && !compared) {
                compared = true;
                wanted = true;
            } else if ("|&".indexOf(sign) >= 0) {
                compared = false;
                wanted = true;
            } else if ("+-*/%".indexOf(sign) >= 0) {
                wanted = true;
            } else {
                return i;
            }
            // an operand has ended: so have the ! ahead of it
            while (!wanted && open.length() > 0 && open.charAt(open.length() - 1) == '!') {
                open.setLength(open.length() - 1);
            }
            // what was set aside at the ! is still the same B
        }
        return wanted || open.length() > 0 ? text.length() : -1;
    }

    private static int hold(int v, int least, int most) {
        return v < least ? least : v > most ? most : v;
    }

    private int say(int k) {
        told[k]++;
        return -1000000 - k;
    }

    private boolean isChild(int child) {
        return child >= 0 && child < yard.children.size();
    }

    private boolean isHeap(int heap) {
        return heap >= 0 && heap < yard.heaps.size();
    }

    private static boolean in(int v, int least, int most) {
        return least <= v && v <= most;
    }

    public int child(int km, int age, int mind) {
        if (!in(km, 0, 699) || !in(age, 0, 99) || !in(mind, 0, 1)) {
            return say(1);
        }
        if (yard.children.size() == 10) {
            return say(4);
        }
        yard.children.add(new int[] {km / 100, km % 100, age, mind, -1, 0});
        return yard.children.size() - 1;
    }

    public int childIs(int child, int what) {
        return isChild(child) && in(what, 0, 7) ? yard.ofChild(child, what) : say(1);
    }

    public int as(int child, int kind) {
        if (!isChild(child) || !in(kind, 0, 6)) {
            return say(1);
        }
        for (int k = yard.children.get(child)[0]; k >= 0; k = PARENT[k]) {
            if (k == kind) {
                return yard.children.get(child)[1];
            }
        }
        return say(5);
    }

    public int set(int child, int what, int v) {
        int[] most = {6, 99, 99, 1};
        if (!isChild(child) || !in(what, 0, 3) || !in(v, 0, most[what])) {
            return say(1);
        }
        int was = yard.children.get(child)[what];
        yard.children.get(child)[what] = v;
        return was;
    }

    public int likes(int one, int other, int v) {
        if (!isChild(one) || !isChild(other) || one == other || !in(v, 0, 99)) {
            return say(1);
        }
        int was = yard.likes[one][other];
        yard.likes[one][other] = v;
        return was;
    }

    public int heap(int least, int most) {
        if (!in(least, 1, 10) || !in(most, 1, 10) || least > most) {
            return say(1);
        }
        if (yard.heaps.size() == 5) {
            return say(4);
        }
        yard.heaps.add(new int[] {least, most, 30, 0});
        return yard.heaps.size() - 1;
    }

    public int heapIs(int heap, int what) {
        if (!isHeap(heap) || !in(what, 0, 4)) {
            return say(1);
        }
        return what == 3 ? yard.bits(heap) : yard.heaps.get(heap)[what == 4 ? 3 : what];
    }

    public int rule(int heap, int v) {
        if (!isHeap(heap) || !in(v, 0, 99)) {
            return say(1);
        }
        int was = yard.heaps.get(heap)[2];
        yard.heaps.get(heap)[2] = v;
        return was;
    }

    public int join(int child, int heap) {
        if (!isChild(child) || !isHeap(heap)) {
            return say(1);
        }
        if (yard.children.get(child)[4] == heap) {
            return say(3);
        }
        yard.move(child, heap);
        return yard.inside(heap).size();
    }

    public int leave(int child) {
        if (!isChild(child)) {
            return say(1);
        }
        int was = yard.children.get(child)[4];
        if (was == -1) {
            return say(3);
        }
        yard.move(child, -1);
        return was;
    }

    public int between(int child, int heap, int what) {
        if (!isChild(child) || !isHeap(heap) || !in(what, 0, 2)) {
            return say(1);
        }
        if (what == 0) {
            return yard.warmth(child, heap);
        }
        return what == 1 ? yard.chance(child, heap) : yard.watching[child][heap];
    }

    public int feed(long word, int n) {
        if (!in(n, 1, 8)) {
            return say(1);
        }
        if (yard.tape.length() + n > 60) {
            return say(4);
        }
        StringBuilder more = new StringBuilder(yard.tape);
        for (int i = 0; i < n; i++) {
            more.append((char) (word & 255));
            word >>= 8;
        }
        yard.tape = more.toString();
        return yard.tape.length();
    }

    public int text(int use) {
        if (!in(use, 0, 1)) {
            return say(1);
        }
        String tape = yard.tape;
        yard.tape = "";
        int fault = fault(tape, use == 0 ? "wrnxa" : "lofh");
        if (fault >= 0) {
            return -10 - fault;
        }
        yard.texts[use] = tape;
        return 1;
    }

    public int untell(int use) {
        if (!in(use, 0, 1)) {
            return say(1);
        }
        int was = yard.texts[use] != null ? 1 : 0;
        yard.texts[use] = null;
        return was;
    }

    public int minutes(int n) {
        if (!in(n, 1, 60)) {
            return say(1);
        }
        if (yard.minutes + n > 99999) {
            return say(3);
        }
        yard = yard.after(n);
        return yard.sorrow();
    }

    public int terms(int n) {
        if (!in(n, 1, 20)) {
            return say(1);
        }
        if (yard.terms + n > 999) {
            return say(3);
        }
        for (int i = 0; i < n; i++) {
            yard.term();
        }
        return yard.terms;
    }

    public int seed(int v) {
        int was = yard.z;
        yard.z = v;
        return was;
    }

    public int both(int child) {
        return isChild(child) ? yard.both(child) : say(1);
    }

    public int ring(int child) {
        return isChild(child) ? yard.ring(child) : say(1);
    }

    public int net(int what) {
        if (!in(what, 0, 3)) {
            return say(1);
        }
        List<Integer> rings = new ArrayList<>();
        int pairs = 0;
        int named = 0;
        int out = 0;
        for (int i = 0; i < yard.children.size(); i++) {
            if (!rings.contains(yard.ring(i))) {
                rings.add(yard.ring(i));
            }
            pairs += Integer.bitCount(yard.both(i) >> i);
            named = Math.max(named, yard.named(i));
            out += yard.children.get(i)[3] == 1 && yard.named(i) == 0 ? 1 << i : 0;
        }
        return new int[] {rings.size(), pairs, named, out}[what];
    }

    public int then(int n, int child, int what) {
        if (!in(n, 0, 60) || !isChild(child) || !in(what, 0, 7)) {
            return say(1);
        }
        return yard.after(n).ofChild(child, what);
    }

    public int sorrow(int n) {
        return in(n, 0, 60) ? yard.after(n).sorrow() : say(1);
    }

    public int word(int child, int n) {
        if (!isChild(child) || !in(n, 0, 60)) {
            return say(1);
        }
        if (yard.children.get(child)[4] != -1) {
            return say(3);
        }
        int best = -1;
        int least = 0;
        for (int i = 0; i < yard.children.size(); i++) {
            int heap = yard.children.get(i)[4];
            if (heap != -1) {
                Yard tried = yard.copy();
                tried.move(child, heap);
                int sorrow = tried.after(n).sorrow();
                if (best == -1 || sorrow < least) {
                    best = i;
                    least = sorrow;
                }
            }
        }
        return best == -1 ? say(2) : best;
    }

    public int teach(int child, int n) {
        if (!isChild(child) || !in(n, 0, 60)) {
            return say(1);
        }
        int best = -1;
        int least = 0;
        for (int kind = 0; kind < 7; kind++) {
            Yard tried = yard.copy();
            tried.children.get(child)[0] = kind;
            int alone = tried.after(n).children.get(child)[5];
            if (best == -1 || alone < least) {
                best = kind;
                least = alone;
            }
        }
        return best;
    }

    public int classes(int what) {
        if (!in(what, 0, 1)) {
            return say(1);
        }
        int n = yard.children.size();
        if (n < 2) {
            return say(2);
        }
        int[] both = new int[n];
        for (int i = 0; i < n; i++) {
            both[i] = yard.both(i);
        }
        int best = -1;
        int least = 0;
        for (int set = 0; set < 1 << n; set++) {
            int second = Integer.bitCount(set);
            if ((set & 1) == 1 || second < n / 2 || n - second < n / 2) {
                continue;
            }
            int alone = 0;
            for (int i = 0; i < n; i++) {
                boolean has = false;
                for (int j = 0; j < n; j++) {
                    has |= (both[i] & 1 << j) != 0 && ((set >> i ^ set >> j) & 1) == 0;
                }
                alone += yard.children.get(i)[3] == 1 && !has ? 1 : 0;
            }
            if (best == -1 || alone < least) {
                best = set;
                least = alone;
            }
        }
        return what == 0 ? best : least;
    }

    public int best(int child) {
        if (!isChild(child)) {
            return say(1);
        }
        return yard.heaps.isEmpty() ? say(2) : yard.best(child);
    }

    /** A child's VOICES; what parts is told by an exception, which ends all that has begun. */
    private final class Mouth {
        final int k;
        final int kind;
        final int m;

        Mouth(int child) {
            k = child;
            kind = yard.children.get(child)[0];
            m = yard.children.get(child)[1];
        }

        int likes(int of, int x) {
            switch (of) {
                case 0: trace.add(10); return x + k;
                case 1: trace.add(20); return likes(0, x) - 6;
                case 4: trace.add(50); return likes(1, x) * 3;
                case 6: trace.add(70); return 5;
                default: return likes(PARENT[of], x);
            }
        }

        int comes(int of, int x) {
            switch (of) {
                case 0: trace.add(11); return likes(kind, x) * 2;
                case 2: trace.add(30); return 0 - comes(0, x);
                case 5: trace.add(60); return comes(2, x + 1);
                case 6: trace.add(71); return comes(0, x) + m;
                default: return comes(PARENT[of], x);
            }
        }

        int shuts(int of, int x) {
            switch (of) {
                case 0: trace.add(12); return comes(kind, x) - m;
                case 3: trace.add(40); return shuts(0, x / 2);
                case 4: trace.add(51); return shuts(1, x) ^ k;
                default: return shuts(PARENT[of], x);
            }
        }

        int moves(int of, int x) {
            switch (of) {
                case 0:
                    trace.add(13);
                    if (m == k) {
                        throw new IllegalStateException("PARTED");
                    }
                    return (int) ((long) x / (m - k));
                case 1: {
                    trace.add(21);
                    int first = moves(0, x);
                    return first + comes(kind, 1);
                }
                default: return moves(PARENT[of], x);
            }
        }
    }

    public int voice(int child, int voice, int x) {
        if (!isChild(child) || !in(voice, 0, 3)) {
            return say(1);
        }
        trace = new ArrayList<>();
        Mouth mouth = new Mouth(child);
        try {
            switch (voice) {
                case 0: return mouth.likes(mouth.kind, x);
                case 1: return mouth.comes(mouth.kind, x);
                case 2: return mouth.shuts(mouth.kind, x);
                default: return mouth.moves(mouth.kind, x);
            }
        } catch (IllegalStateException parted) {
            return say(6);
        }
    }

    public int body(int i) {
        return in(i, 0, Math.min(30, trace.size()) - 1) ? trace.get(i) : say(2);
    }

    public int sheet(int sheet, int bits, int n) {
        if (!in(sheet, 0, 3) || bits != 0 && bits != 8 && bits != 16 && bits != 32) {
            return say(1);
        }
        if (bits == 0) {
            sheetNumbers[sheet] = null;
            return 1;
        }
        if (n < 0) {
            return say(3);
        }
        if (n > 24) {
            return say(1);
        }
        sheetBits[sheet] = bits;
        sheetNumbers[sheet] = new int[n];
        return 1;
    }

    public int put(int sheet, int i, int v) {
        if (!in(sheet, 0, 3)) {
            return say(1);
        }
        if (sheetNumbers[sheet] == null) {
            return say(2);
        }
        if (!in(i, 0, sheetNumbers[sheet].length - 1)) {
            return say(1);
        }
        int away = 32 - sheetBits[sheet];
        sheetNumbers[sheet][i] = v << away >> away;
        return 1;
    }

    public int move(int sheet, int i, int other, int j, int n) {
        if (!in(sheet, 0, 3) || !in(other, 0, 3)) {
            return say(1);
        }
        if (sheetNumbers[sheet] == null || sheetNumbers[other] == null) {
            return say(2);
        }
        if (sheetBits[sheet] != sheetBits[other]) {
            return say(5);
        }
        if (n < 0 || i < 0 || j < 0 || (long) i + n > sheetNumbers[sheet].length
                || (long) j + n > sheetNumbers[other].length) {
            return say(1);
        }
        int[] were = sheetNumbers[sheet].clone();
        for (int k = 0; k < n; k++) {
            sheetNumbers[other][j + k] = were[i + k];
        }
        return n;
    }

    public int slips(int sheet, int child) {
        if (!in(sheet, 0, 3) || !isChild(child)) {
            return say(1);
        }
        if (sheetNumbers[sheet] == null) {
            return say(2);
        }
        int read = 0;
        for (int v : sheetNumbers[sheet]) {
            if (read == yard.children.size() || read != child && !in(v, 0, 99)) {
                break;
            }
            if (read != child) {
                yard.likes[child][read] = v;
            }
            read++;
        }
        return read;
    }

    public int film(int sheet, int n) {
        if (!in(sheet, 0, 3) || !in(n, 0, 60)) {
            return say(1);
        }
        if (sheetNumbers[sheet] == null) {
            return say(2);
        }
        Yard then = yard.after(n);
        for (int i = 0; i < then.children.size(); i++) {
            if (i >= sheetNumbers[sheet].length || sheetNumbers[sheet][i] != then.children.get(i)[4]) {
                return i;
            }
        }
        return then.children.size();
    }

    public int image() {
        image = yard.copy();
        images++;
        return images;
    }

    public int restore() {
        if (image == null) {
            return say(2);
        }
        yard = image.copy();
        return yard.minutes;
    }

    public int tell(int v) {
        if (yard.waiting.size() == 24) {
            return say(4);
        }
        yard.waiting.add(v);
        return yard.waiting.size();
    }

    public int check(int heap) {
        List<Integer> waited = yard.waiting;
        yard.waiting = new ArrayList<>();
        if (!isHeap(heap)) {
            return say(1);
        }
        List<Integer> in = yard.inside(heap);
        for (int i = 0; i < Math.max(in.size(), waited.size()); i++) {
            if (i >= in.size() || i >= waited.size() || !in.get(i).equals(waited.get(i))) {
                return 1 + i;
            }
        }
        return 0;
    }

    public int count(int what) {
        if (!in(what, 0, 8)) {
            return say(1);
        }
        int[] counts = {yard.children.size(), yard.heaps.size(), yard.minutes, yard.terms, yard.bits(-1),
            yard.tape.length(), yard.waiting.size(), Math.min(30, trace.size()), yard.z};
        return counts[what];
    }

    public int told(int k) {
        return in(k, 1, 6) ? told[k] : say(1);
    }
}
