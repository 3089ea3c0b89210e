import java.nio.charset.StandardCharsets;
import java.util.ArrayDeque;
import java.util.ArrayList;
import java.util.Arrays;
import java.util.Deque;
import java.util.List;

/**
 * The document once more, told in another way than FurrowTalk tells it: by brute force, by objects of classes that
 * stand under one another, and by exceptions. ModelTest compares the two.
 */
final class Model {
    /** An ERROR on its way to the answer. */
    static final class Refused extends RuntimeException {
        private static final long serialVersionUID = 1L;
        final long error;

        Refused(long error) {
            super(null, null, false, false);
            this.error = error;
        }
    }

    /** A FURROW's body and its VOICES. */
    static class Plain {
        int k;
        int m;
        List<Integer> trace;

        int says(int x) { trace.add(10); return x + k; }
        int asks(int x) { trace.add(11); return says(x) * 2; }
        int hums(int x) { trace.add(12); return asks(x) - m; }
        int parts(int x) {
            trace.add(13);
            if (m - k == 0) {
                throw new Refused(Checks.PARTED);
            }
            return x / (m - k);
        }
        boolean answers(One me, One to) { return me.lng == to.lng || me.crook == to.crook; }
        int depth(One me) { return me.m; }
    }

    static class Oath extends Plain {
        @Override int says(int x) { trace.add(20); return super.says(x) - 4; }
        @Override int parts(int x) { trace.add(21); int left = super.parts(x); return left + asks(1); }
        @Override boolean answers(One me, One to) { return me.lng == to.lng; }
        @Override int depth(One me) { return me.m + 2; }
    }

    static class Round extends Plain {
        @Override int asks(int x) { trace.add(30); return 0 - super.asks(x); }
        @Override boolean answers(One me, One to) { return me.crook >= to.crook; }
        @Override int depth(One me) { return me.m + me.m; }
    }

    static class Reply extends Plain {
        @Override int hums(int x) { trace.add(40); return super.hums(x / 2); }
        @Override boolean answers(One me, One to) {
            return super.answers(me, to) || me.lng + me.crook == to.lng + to.crook;
        }
    }

    static class Sworn extends Oath {
        @Override int says(int x) { trace.add(50); return super.says(x) * 3; }
        @Override int hums(int x) { trace.add(51); return super.hums(x) ^ k; }
        @Override boolean answers(One me, One to) { return super.answers(me, to) && me.crook == to.crook; }
        @Override int depth(One me) { return super.depth(me) + me.crook; }
    }

    static class Diamond extends Round {
        @Override int asks(int x) { trace.add(60); return super.asks(x + 1); }
        @Override boolean answers(One me, One to) { return !super.answers(me, to); }
        @Override int depth(One me) { return super.depth(me) - 1; }
    }

    static class Deep extends Plain {
        @Override int says(int x) { trace.add(70); return 9; }
        @Override int asks(int x) { trace.add(71); return super.asks(x) + m; }
        @Override boolean answers(One me, One to) { return super.answers(me, to) || me.hand == to.hand; }
        @Override int depth(One me) { return me.m + me.lng; }
    }

    static Plain bodyOf(int kind) {
        switch (kind) {
            case 0: return new Plain();
            case 1: return new Oath();
            case 2: return new Round();
            case 3: return new Reply();
            case 4: return new Sworn();
            case 5: return new Diamond();
            default: return new Deep();
        }
    }

    /** A FURROW as it stands. */
    static final class One {
        int kind;
        int m;
        int lng;
        int crook;
        int hand;
        int age;
        boolean covered;

        One copy() {
            One o = new One();
            o.kind = kind;
            o.m = m;
            o.lng = lng;
            o.crook = crook;
            o.hand = hand;
            o.age = age;
            o.covered = covered;
            return o;
        }

        boolean answers(One to) {
            return bodyOf(kind).answers(this, to);
        }

        int depth() {
            return bodyOf(kind).depth(this);
        }
    }

    /** All that an image keeps. */
    static final class All {
        List<One> ones = new ArrayList<>();
        int year;
        int patience = 5;
        int z = 1;
        List<Byte> tape = new ArrayList<>();
        String[] texts = new String[2];
        List<Integer> waiting = new ArrayList<>();

        All copy() {
            All a = new All();
            for (One o : ones) {
                a.ones.add(o.copy());
            }
            a.year = year;
            a.patience = patience;
            a.z = z;
            a.tape = new ArrayList<>(tape);
            a.texts = texts.clone();
            a.waiting = new ArrayList<>(waiting);
            return a;
        }

        List<One> seen() {
            List<One> s = new ArrayList<>();
            for (One o : ones) {
                if (!o.covered) {
                    s.add(o);
                }
            }
            return s;
        }

        int set() {
            int s = 0;
            for (int i = 0; i < ones.size(); i++) {
                s += ones.get(i).covered ? 0 : 1 << i;
            }
            return s;
        }

        boolean heard(int f) {
            for (int i = f + 1; i < ones.size(); i++) {
                if (!ones.get(i).covered) {
                    return ones.get(i).answers(ones.get(f));
                }
            }
            return false;
        }

        void goBy() {
            boolean[] heard = new boolean[ones.size()];
            for (int i = 0; i < heard.length; i++) {
                heard[i] = heard(i);
            }
            for (int i = 0; i < heard.length; i++) {
                One o = ones.get(i);
                if (!o.covered && !heard[i]) {
                    o.age = o.age == 99 ? 99 : o.age + 1;
                    o.covered = o.age >= patience;
                }
            }
            year++;
        }

        int draw() {
            z = (int) (z * 1103515245L + 12345L);
            return z >>> 8;
        }
    }

    All all = new All();
    All image;
    int imagesDone;
    List<Integer> trace = new ArrayList<>();
    Object[] sheets = new Object[4];
    int[] told = new int[7];

    static void must(boolean good, long error) {
        if (!good) {
            throw new Refused(error);
        }
    }

    static boolean in(long v, long least, long most) {
        return v >= least && v <= most;
    }

    static boolean isLine(int lc) {
        return in(lc, 0, 129) && in(lc / 10, 1, 12) && in(lc % 10, 0, 5);
    }

    One one(int f) {
        must(in(f, 0, all.ones.size() - 1), Checks.BEYOND);
        return all.ones.get(f);
    }

    /** One call by its name; counts the ERRORS. */
    long call(String name, long[] a) {
        try {
            return answer(name, a);
        } catch (Refused r) {
            told[(int) (Checks.LOW - r.error)]++;
            return r.error;
        }
    }

    private long answer(String name, long[] a) {
        int p = a.length > 0 ? (int) a[0] : 0;
        int q = a.length > 1 ? (int) a[1] : 0;
        int r = a.length > 2 ? (int) a[2] : 0;
        switch (name) {
            case "plough": return plough(p, q, r);
            case "furrowIs": return furrowIs(p, q);
            case "become": return become(p, q);
            case "as": return as(p, q);
            case "answers": return answers(p, q);
            case "cover": return cover(p, q);
            case "redraw": return redraw(p, q);
            case "patience": return patience(p);
            case "feed": return feed(a[0], q);
            case "text": return text(p);
            case "untell": return untell(p);
            case "law": return law(p, q, r, (int) a[3]);
            case "years": return years(p);
            case "loose": return loose(p);
            case "seed": return seed(p);
            case "talk": return talk(p);
            case "meaning": return meaning(p);
            case "then": return then(p, q);
            case "fewest": return fewest(p);
            case "reply": return reply(p, q);
            case "odds": return odds(p, q, r);
            case "fits": return fits(p);
            case "voice": return voice(p, q, r);
            case "body": return body(p);
            case "sheet": return sheet(p, q, r);
            case "put": return put(p, q, r);
            case "move": return move(p, q, r, (int) a[3], (int) a[4]);
            case "lines": return lines(p);
            case "judge": return judge(p);
            case "image": return image();
            case "restore": return restore();
            case "tell": return tell(p);
            case "check": return check();
            case "count": return count(p);
            case "told": return told(p);
            default: throw new IllegalStateException(name);
        }
    }

    long plough(int km, int lc, int hand) {
        must(in(km, 0, 69) && isLine(lc) && in(hand, 0, 5), Checks.BEYOND);
        must(all.ones.size() < 12, Checks.FULL);
        One o = new One();
        o.kind = km / 10;
        o.m = km % 10;
        o.lng = lc / 10;
        o.crook = lc % 10;
        o.hand = hand;
        all.ones.add(o);
        return all.ones.size() - 1;
    }

    long furrowIs(int f, int what) {
        One o = one(f);
        must(in(what, 0, 9), Checks.BEYOND);
        int[] is = {o.kind, o.m, o.lng, o.crook, o.hand, o.age, o.covered ? 1 : 0, o.depth(), sense(o),
            all.heard(f) ? 1 : 0};
        return is[what];
    }

    long become(int f, int km) {
        One o = one(f);
        must(in(km, 0, 69), Checks.BEYOND);
        int was = o.kind;
        o.kind = km / 10;
        o.m = km % 10;
        return was;
    }

    long as(int f, int kind) {
        One o = one(f);
        must(in(kind, 0, 6), Checks.BEYOND);
        must(bodyOf(kind).getClass().isInstance(bodyOf(o.kind)), Checks.KIND);
        return o.m;
    }

    long answers(int f, int to) {
        One o = one(f);
        One other = one(to);
        must(f != to, Checks.BEYOND);
        return o.answers(other) ? 1 : 0;
    }

    long cover(int f, int is) {
        One o = one(f);
        must(in(is, 0, 1), Checks.BEYOND);
        boolean was = o.covered;
        o.covered = is == 1;
        return was ? 1 : 0;
    }

    long redraw(int f, int lc) {
        One o = one(f);
        must(isLine(lc), Checks.BEYOND);
        int was = 10 * o.lng + o.crook;
        o.lng = lc / 10;
        o.crook = lc % 10;
        return was;
    }

    long patience(int v) {
        must(in(v, 1, 20), Checks.BEYOND);
        int was = all.patience;
        all.patience = v;
        return was;
    }

    long feed(long word, int n) {
        must(in(n, 1, 8), Checks.BEYOND);
        must(all.tape.size() + n <= 60, Checks.FULL);
        long rest = word;
        for (int i = 0; i < n; i++) {
            all.tape.add((byte) (rest & 255));
            rest >>= 8;
        }
        return all.tape.size();
    }

    long text(int use) {
        must(in(use, 0, 1), Checks.BEYOND);
        byte[] bytes = new byte[all.tape.size()];
        for (int i = 0; i < bytes.length; i++) {
            bytes[i] = all.tape.get(i);
        }
        all.tape.clear();
        String t = new String(bytes, StandardCharsets.ISO_8859_1);
        int fault = fault(t, use == 0 ? "abk" : "lcd");
        if (fault >= 0) {
            return -10 - fault;
        }
        all.texts[use] = t;
        return 1;
    }

    long untell(int use) {
        must(in(use, 0, 1), Checks.BEYOND);
        boolean was = all.texts[use] != null;
        all.texts[use] = null;
        return was ? 1 : 0;
    }

    /** Goes byte by byte, with what is open; -1 if all is a TEXT. */
    static int fault(String t, String names) {
        Deque<Character> open = new ArrayDeque<>();
        Deque<Boolean> compared = new ArrayDeque<>();
        boolean comparedHere = false;
        boolean operandDue = true;
        int digits = 0;
        for (int i = 0; i < t.length(); i++) {
            char ch = t.charAt(i);
            if (operandDue) {
                if (ch == '!' || ch == '(') {
                    if (open.size() == 5) {
                        return i;
                    }
                    open.push(ch);
                    if (ch == '(') {
                        compared.push(comparedHere);
                        comparedHere = false;
                    }
                    continue;
                }
                if (ch >= '0' && ch <= '9') {
                    digits = 1;
                } else if (names.indexOf(ch) >= 0) {
                    digits = 0;
                } else {
                    return i;
                }
                operandDue = false;
                closeNots(open);
                continue;
            }
            if (ch >= '0' && ch <= '9') {
                if (digits == 0 || digits == 4) {
                    return i;
                }
                digits++;
                continue;
            }
            digits = 0;
            if (ch == ')') {
                if (open.isEmpty()) {
                    return i;
                }
                open.pop();
                comparedHere = compared.pop();
                closeNots(open);
            } else if (ch == '<' || ch == '=' || ch == '>') {
                if (comparedHere) {
                    return i;
                }
                comparedHere = true;
                operandDue = true;
            } else if (ch == '&' || ch == '|') {
                comparedHere = false;
                operandDue = true;
            } else if ("+-*/%".indexOf(ch) >= 0) {
                operandDue = true;
            } else {
                return i;
            }
        }
        return operandDue || !open.isEmpty() ? t.length() : -1;
    }

    private static void closeNots(Deque<Character> open) {
        while (!open.isEmpty() && open.peek() == '!') {
            open.pop();
        }
    }

    /** Splits a TEXT at its loosest sign that is farthest right. */
    static int value(String t, String names, int[] v) {
        String[] levels = {"|", "&", "<=>", "+-", "*/%"};
        for (String signs : levels) {
            int deep = 0;
            for (int i = t.length() - 1; i >= 0; i--) {
                char ch = t.charAt(i);
                deep += ch == ')' ? 1 : ch == '(' ? -1 : 0;
                if (deep == 0 && signs.indexOf(ch) >= 0) {
                    return joined(ch, value(t.substring(0, i), names, v), value(t.substring(i + 1), names, v));
                }
            }
        }
        if (t.charAt(0) == '!') {
            return value(t.substring(1), names, v) == 0 ? 1 : 0;
        }
        if (t.charAt(0) == '(') {
            return value(t.substring(1, t.length() - 1), names, v);
        }
        int name = names.indexOf(t.charAt(0));
        return name >= 0 ? v[name] : Integer.parseInt(t);
    }

    private static int joined(char sign, int l, int r) {
        switch (sign) {
            case '|': return l != 0 || r != 0 ? 1 : 0;
            case '&': return l != 0 && r != 0 ? 1 : 0;
            case '<': return l < r ? 1 : 0;
            case '=': return l == r ? 1 : 0;
            case '>': return l > r ? 1 : 0;
            case '+': return l + r;
            case '-': return l - r;
            case '*': return l * r;
            case '/': return r == 0 ? 0 : (int) ((long) l / r);
            default: return r == 0 ? 0 : (int) ((long) l % r);
        }
    }

    int law(int use, int a, int b, int c) {
        must(in(use, 0, 1), Checks.BEYOND);
        String t = all.texts[use];
        int v;
        if (t != null) {
            v = value(t, use == 0 ? "abk" : "lcd", new int[] {a, b, c});
        } else {
            v = use == 0 ? a + b : a * b;
        }
        int least = use == 0 ? 1 : -99;
        return v < least ? least : v > 99 ? 99 : v;
    }

    int sense(One o) {
        return law(1, o.lng, o.crook, o.depth());
    }

    long years(int n) {
        must(in(n, 1, 60), Checks.BEYOND);
        must(all.year + n <= 9999, Checks.STATE);
        for (int i = 0; i < n; i++) {
            all.goBy();
        }
        return all.seen().size();
    }

    long loose(int n) {
        must(in(n, 1, 20), Checks.BEYOND);
        must(all.year + n <= 9999, Checks.STATE);
        for (int i = 0; i < n; i++) {
            if (all.ones.size() < 12) {
                One o = new One();
                o.kind = all.draw() % 7;
                int line = all.draw() % 72;
                o.lng = 1 + line / 6;
                o.crook = line % 6;
                o.hand = all.draw() % 6;
                all.ones.add(o);
            }
            all.goBy();
        }
        return all.seen().size();
    }

    long seed(int v) {
        int was = all.z;
        all.z = v;
        return was;
    }

    long talk(int what) {
        must(in(what, 0, 2), Checks.BEYOND);
        List<One> s = all.seen();
        if (what == 2) {
            return s.size();
        }
        int answering = 0;
        int most = 0;
        for (int i = 0; i < s.size(); i++) {
            answering += i > 0 && s.get(i).answers(s.get(i - 1)) ? 1 : 0;
            int end = i + 1;
            while (end < s.size() && s.get(end).answers(s.get(end - 1))) {
                end++;
            }
            most = Math.max(most, end - i);
        }
        return what == 0 ? most : answering;
    }

    long meaning(int hand) {
        must(in(hand, -1, 5), Checks.BEYOND);
        List<One> s = all.seen();
        int sum = 0;
        for (int i = 1; i < s.size(); i++) {
            if (s.get(i).answers(s.get(i - 1)) && (hand == -1 || hand == s.get(i).hand)) {
                sum += sense(s.get(i));
            }
        }
        return sum;
    }

    long then(int n, int what) {
        must(in(n, 0, 60) && in(what, 0, 1), Checks.BEYOND);
        All a = all.copy();
        for (int i = 0; i < n; i++) {
            a.goBy();
        }
        return what == 0 ? a.seen().size() : a.set();
    }

    long fewest(int what) {
        must(in(what, 0, 1), Checks.BEYOND);
        int seen = all.set();
        int best = seen;
        for (int set = 0; set <= seen; set++) {
            if ((set & ~seen) == 0 && Integer.bitCount(set) < Integer.bitCount(best) && allAnswer(seen & ~set)) {
                best = set;
            }
        }
        return what == 0 ? Integer.bitCount(best) : best;
    }

    private boolean allAnswer(int set) {
        One ahead = null;
        for (int i = 0; i < all.ones.size(); i++) {
            if ((set >> i & 1) == 1) {
                if (ahead != null && !all.ones.get(i).answers(ahead)) {
                    return false;
                }
                ahead = all.ones.get(i);
            }
        }
        return true;
    }

    long reply(int lc, int what) {
        must(isLine(lc) && in(what, 0, 1), Checks.BEYOND);
        List<One> s = all.seen();
        must(!s.isEmpty(), Checks.STATE);
        One last = s.get(s.size() - 1);
        int from = 10 * last.lng + last.crook;
        int[] cost = new int[130];
        Arrays.fill(cost, 1000000);
        cost[lc] = 0;
        int[][] step = new int[12][6];
        for (int i = 1; i < 12; i++) {
            step[i][0] = law(0, i, 0, all.patience);
        }
        for (int i = 1; i < 6; i++) {
            step[0][i] = law(0, 0, i, all.patience);
        }
        boolean changed = true;
        while (changed) {
            changed = false;
            for (int x = 10; x < 130; x++) {
                for (int y = 10; y < 130; y++) {
                    int by = between(step, x, y);
                    if (by > 0 && cost[y] + by < cost[x]) {
                        cost[x] = cost[y] + by;
                        changed = true;
                    }
                }
            }
        }
        if (what == 0) {
            return cost[from];
        }
        for (int y = 10; y < 130 && from != lc; y++) {
            int by = between(step, from, y);
            if (by > 0 && cost[y] + by == cost[from]) {
                return y;
            }
        }
        return -1;
    }

    /** The COST of one step, 0 if there is none such. */
    private static int between(int[][] step, int x, int y) {
        if (!isLine(x) || !isLine(y)) {
            return 0;
        }
        int a = Math.abs(x / 10 - y / 10);
        int b = Math.abs(x % 10 - y % 10);
        return (a == 0) == (b == 0) ? 0 : step[a][b];
    }

    long odds(int km, int hand, int part) {
        must(in(km, 0, 69) && in(hand, 0, 5) && in(part, 0, 1), Checks.BEYOND);
        List<One> s = all.seen();
        must(!s.isEmpty() && all.ones.size() < 12, Checks.STATE);
        One o = new One();
        o.kind = km / 10;
        o.hand = hand;
        int above = 0;
        int below = 0;
        for (o.lng = 1; o.lng <= 12; o.lng++) {
            for (o.crook = 0; o.crook <= 5; o.crook++) {
                below++;
                above += o.answers(s.get(s.size() - 1)) ? 1 : 0;
            }
        }
        int x = above;
        int y = below;
        while (y != 0) {
            int rest = x % y;
            x = y;
            y = rest;
        }
        return part == 0 ? above / x : below / x;
    }

    private Object sheetAt(int s) {
        must(in(s, 0, 3), Checks.BEYOND);
        must(sheets[s] != null, Checks.NONE);
        return sheets[s];
    }

    private static int[] numbersOf(Object row) {
        int[] n = new int[java.lang.reflect.Array.getLength(row)];
        for (int i = 0; i < n.length; i++) {
            n[i] = java.lang.reflect.Array.getInt(row, i);
        }
        return n;
    }

    long fits(int sheet) {
        int[] row = numbersOf(sheetAt(sheet));
        All a = all.copy();
        for (int y = 0; y <= 60; y++) {
            int[] longs = a.seen().stream().mapToInt(o -> o.lng).toArray();
            if (Arrays.equals(longs, row)) {
                return y;
            }
            a.goBy();
        }
        throw new Refused(Checks.NONE);
    }

    long voice(int f, int voice, int x) {
        One o = one(f);
        must(in(voice, 0, 3), Checks.BEYOND);
        Plain body = bodyOf(o.kind);
        body.k = f;
        body.m = o.m;
        body.trace = new ArrayList<>();
        trace = body.trace;
        return voice == 0 ? body.says(x) : voice == 1 ? body.asks(x) : voice == 2 ? body.hums(x) : body.parts(x);
    }

    long body(int i) {
        must(in(i, 0, trace.size() - 1), Checks.NONE);
        return trace.get(i);
    }

    long sheet(int s, int bits, int n) {
        must(in(s, 0, 3) && (bits == 0 || bits == 8 || bits == 16 || bits == 32), Checks.BEYOND);
        if (bits != 0) {
            must(n >= 0, Checks.STATE);
            must(n <= 24, Checks.BEYOND);
        }
        sheets[s] = bits == 0 ? null : bits == 8 ? new byte[n] : bits == 16 ? new short[n] : new int[n];
        return 1;
    }

    long put(int s, int i, int v) {
        Object row = sheetAt(s);
        must(in(i, 0, java.lang.reflect.Array.getLength(row) - 1), Checks.BEYOND);
        if (row instanceof byte[] b) {
            b[i] = (byte) v;
        } else if (row instanceof short[] h) {
            h[i] = (short) v;
        } else {
            ((int[]) row)[i] = v;
        }
        return 1;
    }

    long move(int s, int i, int other, int j, int n) {
        must(in(s, 0, 3) && in(other, 0, 3), Checks.BEYOND);
        Object from = sheetAt(s);
        Object to = sheetAt(other);
        must(from.getClass() == to.getClass(), Checks.KIND);
        must(n >= 0 && i >= 0 && j >= 0 && (long) i + n <= java.lang.reflect.Array.getLength(from)
            && (long) j + n <= java.lang.reflect.Array.getLength(to), Checks.BEYOND);
        System.arraycopy(from, i, to, j, n);
        return n;
    }

    long lines(int s) {
        int[] row = numbersOf(sheetAt(s));
        int done = 0;
        for (int v : row) {
            if (done == all.ones.size() || !isLine(v)) {
                break;
            }
            all.ones.get(done).lng = v / 10;
            all.ones.get(done).crook = v % 10;
            done++;
        }
        return done;
    }

    long judge(int s) {
        int[] row = numbersOf(sheetAt(s));
        int right = 0;
        for (int v : row) {
            if (right == all.ones.size() || sense(all.ones.get(right)) != v) {
                break;
            }
            right++;
        }
        return right;
    }

    long image() {
        image = all.copy();
        return ++imagesDone;
    }

    long restore() {
        must(image != null, Checks.NONE);
        all = image.copy();
        return all.year;
    }

    long tell(int v) {
        must(all.waiting.size() < 24, Checks.FULL);
        all.waiting.add(v);
        return all.waiting.size();
    }

    long check() {
        List<Integer> w = all.waiting;
        all.waiting = new ArrayList<>();
        for (int i = 0; i < w.size(); i++) {
            if (i >= all.ones.size() || all.ones.get(i).age != w.get(i)) {
                return 1 + i;
            }
        }
        return 0;
    }

    long count(int what) {
        must(in(what, 0, 7), Checks.BEYOND);
        int[] is = {all.ones.size(), all.seen().size(), all.year, all.patience, all.tape.size(), all.waiting.size(),
            trace.size(), all.z};
        return is[what];
    }

    long told(int k) {
        must(in(k, 1, 6), Checks.BEYOND);
        return told[k];
    }
}
