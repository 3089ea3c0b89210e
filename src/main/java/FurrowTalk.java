/** A conversation of furrows, each of which has to be answered in kind; see README.md. */
public final class FurrowTalk {

    private static final int LOW = -1000000000;
    private static final int BEYOND = LOW - 1;
    private static final int NONE = LOW - 2;
    private static final int STATE = LOW - 3;
    private static final int FULL = LOW - 4;
    private static final int KIND = LOW - 5;
    private static final int PARTED = LOW - 6;
    private static final int ERRORS = 6;

    private static final int FURROW = 0;
    private static final int OATH = 1;
    private static final int ROUND = 2;
    private static final int REPLY = 3;
    private static final int SWORN = 4;
    private static final int DIAMOND = 5;
    private static final int DEEP = 6;
    private static final int KINDS = 7;
    private static final int NO_KIND = -1;
    private static final int[] KIND_ABOVE = {NO_KIND, FURROW, FURROW, FURROW, OATH, ROUND, FURROW};

    private static final int MOST_FURROWS = 12;
    private static final int LONGS = 12;
    private static final int CROOKS = 6;
    private static final int ALL_LINES = LONGS * CROOKS;
    private static final int HANDS = 6;
    private static final int OLDEST = 99;
    private static final int LAST_YEAR = 9999;
    private static final int FIRST_PATIENCE = 5;
    private static final int MOST_PATIENCE = 20;
    private static final int MOST_YEARS = 60;
    private static final int MOST_LOOSE_YEARS = 20;

    private static final int TAPE_SIZE = 60;
    private static final int WORD_BYTES = 8;
    private static final int FAULT_BASE = -10;
    private static final int COST = 0;
    private static final int USES = 2;
    private static final int DEAREST = 99;
    private static final int MOST_SENSE = 99;

    private static final int VOICES = 4;
    private static final int TRACE_SIZE = 30;
    private static final int SHEETS = 4;
    private static final int SHEET_SIZE = 24;
    private static final int MOST_WAITING = 24;

    private final World now = new World();
    private final World kept = new World();
    private int images;
    private final Field thought = new Field();
    private final Furrow candidate = new Furrow();
    private final Chains chains = new Chains();
    private final Scale longScale = new Scale(LONGS);
    private final Scale crookScale = new Scale(CROOKS);
    private final TextReader reader = new TextReader();
    private final Speaker speaker = new Speaker();
    private final Sheet[] sheets = new Sheet[SHEETS];
    private final int[] errorsTold = new int[ERRORS + 1];

    public FurrowTalk() {
        for (int i = 0; i < SHEETS; i++) {
            sheets[i] = new Sheet();
        }
    }

    // ---- furrows

    public int plough(int km, int lc, int hand) {
        if (!isKindWithNumber(km) || !isLine(lc) || !isHand(hand)) {
            return refuse(BEYOND);
        }
        if (now.field.size >= MOST_FURROWS) {
            return refuse(FULL);
        }
        return now.field.add(km, lc, hand);
    }

    public int furrowIs(int furrow, int what) {
        if (!isFurrow(furrow)) {
            return refuse(BEYOND);
        }
        Furrow one = now.field.furrows[furrow];
        switch (what) {
            case 0: return one.kind;
            case 1: return one.m;
            case 2: return one.length;
            case 3: return one.crook;
            case 4: return one.hand;
            case 5: return one.age;
            case 6: return asNumber(one.covered);
            case 7: return one.depth();
            case 8: return now.senseOf(one);
            case 9: return asNumber(now.field.isHeard(furrow));
            default: return refuse(BEYOND);
        }
    }

    public int become(int furrow, int km) {
        if (!isFurrow(furrow) || !isKindWithNumber(km)) {
            return refuse(BEYOND);
        }
        Furrow one = now.field.furrows[furrow];
        int was = one.kind;
        one.setKindAndNumber(km);
        return was;
    }

    public int as(int furrow, int kind) {
        if (!isFurrow(furrow) || !isKind(kind)) {
            return refuse(BEYOND);
        }
        Furrow one = now.field.furrows[furrow];
        return one.isOfKind(kind) ? one.m : refuse(KIND);
    }

    public int answers(int furrow, int to) {
        if (!isFurrow(furrow) || !isFurrow(to) || furrow == to) {
            return refuse(BEYOND);
        }
        return asNumber(now.field.echoes(furrow, to));
    }

    public int cover(int furrow, int is) {
        if (!isFurrow(furrow) || is < 0 || is > 1) {
            return refuse(BEYOND);
        }
        Furrow one = now.field.furrows[furrow];
        int was = asNumber(one.covered);
        one.covered = is == 1;
        return was;
    }

    public int redraw(int furrow, int lc) {
        if (!isFurrow(furrow) || !isLine(lc)) {
            return refuse(BEYOND);
        }
        Furrow one = now.field.furrows[furrow];
        int was = one.line();
        one.setLine(lc);
        return was;
    }

    public int patience(int v) {
        if (v < 1 || v > MOST_PATIENCE) {
            return refuse(BEYOND);
        }
        int was = now.field.patience;
        now.field.patience = v;
        return was;
    }

    // ---- texts

    public int feed(long word, int n) {
        if (n < 1 || n > WORD_BYTES) {
            return refuse(BEYOND);
        }
        if (now.tapeSize + n > TAPE_SIZE) {
            return refuse(FULL);
        }
        for (int i = 0; i < n; i++) {
            now.tape[now.tapeSize + i] = (byte) (word >>> (8 * i));
        }
        now.tapeSize += n;
        return now.tapeSize;
    }

    public int text(int use) {
        if (!isUse(use)) {
            return refuse(BEYOND);
        }
        boolean good = reader.read(now.tape, now.tapeSize, use);
        now.tapeSize = 0;
        if (!good) {
            return FAULT_BASE - reader.place;
        }
        now.laws[use].copyFrom(reader.draft);
        return 1;
    }

    public int untell(int use) {
        if (!isUse(use)) {
            return refuse(BEYOND);
        }
        int was = asNumber(now.laws[use].isGiven());
        now.laws[use].clear();
        return was;
    }

    public int law(int use, int a, int b, int c) {
        if (!isUse(use)) {
            return refuse(BEYOND);
        }
        return now.giveUse(use, a, b, c);
    }

    // ---- years

    public int years(int n) {
        if (n < 1 || n > MOST_YEARS) {
            return refuse(BEYOND);
        }
        if (now.field.year + n > LAST_YEAR) {
            return refuse(STATE);
        }
        now.field.passYears(n);
        return now.field.seenCount();
    }

    public int loose(int n) {
        if (n < 1 || n > MOST_LOOSE_YEARS) {
            return refuse(BEYOND);
        }
        if (now.field.year + n > LAST_YEAR) {
            return refuse(STATE);
        }
        for (int i = 0; i < n; i++) {
            now.field.passYearByDraws();
        }
        return now.field.seenCount();
    }

    public int seed(int v) {
        int was = now.field.z;
        now.field.z = v;
        return was;
    }

    // ---- what is, what would be

    public int talk(int what) {
        switch (what) {
            case 0: return now.field.longestTalk();
            case 1: return now.field.answerCount();
            case 2: return now.field.seenCount();
            default: return refuse(BEYOND);
        }
    }

    public int meaning(int hand) {
        if (hand != -1 && !isHand(hand)) {
            return refuse(BEYOND);
        }
        int sum = 0;
        for (int i = 0; i < now.field.size; i++) {
            Furrow one = now.field.furrows[i];
            if ((hand == -1 || one.hand == hand) && now.field.isAnswer(i)) {
                sum += now.senseOf(one);
            }
        }
        return sum;
    }

    public int then(int n, int what) {
        if (n < 0 || n > MOST_YEARS || what < 0 || what > 1) {
            return refuse(BEYOND);
        }
        thought.copyFrom(now.field);
        thought.passYears(n);
        return what == 0 ? thought.seenCount() : thought.seenSet();
    }

    public int fewest(int what) {
        if (what < 0 || what > 1) {
            return refuse(BEYOND);
        }
        int toCover = now.field.seenSet() & ~chains.bestSet(now.field);
        return what == 0 ? Integer.bitCount(toCover) : toCover;
    }

    public int reply(int lc, int what) {
        if (!isLine(lc) || what < 0 || what > 1) {
            return refuse(BEYOND);
        }
        int last = now.field.seenAhead(now.field.size);
        if (last < 0) {
            return refuse(STATE);
        }
        for (int i = 1; i < LONGS; i++) {
            longScale.stepCosts[i] = now.giveUse(COST, i, 0, now.field.patience);
        }
        for (int i = 1; i < CROOKS; i++) {
            crookScale.stepCosts[i] = now.giveUse(COST, 0, i, now.field.patience);
        }
        longScale.measureTo(lc / 10 - 1);
        crookScale.measureTo(lc % 10);
        Furrow from = now.field.furrows[last];
        if (what == 0) {
            return longScale.costs[from.length - 1] + crookScale.costs[from.crook];
        }
        return firstReplyLine(from);
    }

    public int odds(int km, int hand, int part) {
        if (!isKindWithNumber(km) || !isHand(hand) || part < 0 || part > 1) {
            return refuse(BEYOND);
        }
        int last = now.field.seenAhead(now.field.size);
        if (last < 0 || now.field.size >= MOST_FURROWS) {
            return refuse(STATE);
        }
        candidate.setKindAndNumber(km);
        candidate.hand = hand;
        int good = linesThatEcho(now.field.furrows[last]);
        int divisor = commonDivisor(good);
        return part == 0 ? good / divisor : ALL_LINES / divisor;
    }

    public int fits(int sheet) {
        if (!isSheet(sheet)) {
            return refuse(BEYOND);
        }
        Sheet told = sheets[sheet];
        if (told.isMissing()) {
            return refuse(NONE);
        }
        thought.copyFrom(now.field);
        for (int i = 0; i <= MOST_YEARS; i++) {
            if (tellsLengths(told, thought)) {
                return i;
            }
            thought.passYear();
        }
        return refuse(NONE);
    }

    // ---- voices, sheets, images, what is told

    public int voice(int furrow, int voice, int x) {
        if (!isFurrow(furrow) || voice < 0 || voice >= VOICES) {
            return refuse(BEYOND);
        }
        int said = speaker.speak(now.field.furrows[furrow], furrow, voice, x);
        return speaker.parted ? refuse(PARTED) : said;
    }

    public int body(int i) {
        return i >= 0 && i < speaker.traceSize ? speaker.trace[i] : refuse(NONE);
    }

    public int sheet(int sheet, int bits, int n) {
        if (!isSheet(sheet) || (bits != 0 && bits != 8 && bits != 16 && bits != 32)) {
            return refuse(BEYOND);
        }
        if (bits == 0) {
            sheets[sheet].lay(0, 0);
            return 1;
        }
        if (n < 0) {
            return refuse(STATE);
        }
        if (n > SHEET_SIZE) {
            return refuse(BEYOND);
        }
        sheets[sheet].lay(bits, n);
        return 1;
    }

    public int put(int sheet, int i, int v) {
        if (!isSheet(sheet)) {
            return refuse(BEYOND);
        }
        Sheet row = sheets[sheet];
        if (row.isMissing()) {
            return refuse(NONE);
        }
        if (i < 0 || i >= row.size) {
            return refuse(BEYOND);
        }
        row.write(i, v);
        return 1;
    }

    public int move(int sheet, int i, int other, int j, int n) {
        if (!isSheet(sheet) || !isSheet(other)) {
            return refuse(BEYOND);
        }
        Sheet from = sheets[sheet];
        Sheet to = sheets[other];
        if (from.isMissing() || to.isMissing()) {
            return refuse(NONE);
        }
        if (from.bits != to.bits) {
            return refuse(KIND);
        }
        if (!from.holds(i, n) || !to.holds(j, n)) {
            return refuse(BEYOND);
        }
        System.arraycopy(from.numbers, i, to.numbers, j, n);
        return n;
    }

    public int lines(int sheet) {
        if (!isSheet(sheet)) {
            return refuse(BEYOND);
        }
        Sheet row = sheets[sheet];
        if (row.isMissing()) {
            return refuse(NONE);
        }
        int most = Math.min(row.size, now.field.size);
        int done = 0;
        while (done < most && isLine(row.numbers[done])) {
            now.field.furrows[done].setLine(row.numbers[done]);
            done++;
        }
        return done;
    }

    public int judge(int sheet) {
        if (!isSheet(sheet)) {
            return refuse(BEYOND);
        }
        Sheet row = sheets[sheet];
        if (row.isMissing()) {
            return refuse(NONE);
        }
        int most = Math.min(row.size, now.field.size);
        int right = 0;
        while (right < most && row.numbers[right] == now.senseOf(now.field.furrows[right])) {
            right++;
        }
        return right;
    }

    public int image() {
        kept.copyFrom(now);
        images++;
        return images;
    }

    public int restore() {
        if (images == 0) {
            return refuse(NONE);
        }
        now.copyFrom(kept);
        return now.field.year;
    }

    public int tell(int v) {
        if (now.waitingSize >= MOST_WAITING) {
            return refuse(FULL);
        }
        now.waiting[now.waitingSize] = v;
        now.waitingSize++;
        return now.waitingSize;
    }

    public int check() {
        int size = now.waitingSize;
        now.waitingSize = 0;
        for (int i = 0; i < size; i++) {
            if (i >= now.field.size || now.waiting[i] != now.field.furrows[i].age) {
                return 1 + i;
            }
        }
        return 0;
    }

    public int count(int what) {
        switch (what) {
            case 0: return now.field.size;
            case 1: return now.field.seenCount();
            case 2: return now.field.year;
            case 3: return now.field.patience;
            case 4: return now.tapeSize;
            case 5: return now.waitingSize;
            case 6: return speaker.traceSize;
            case 7: return now.field.z;
            default: return refuse(BEYOND);
        }
    }

    public int told(int k) {
        if (k < 1 || k > ERRORS) {
            return refuse(BEYOND);
        }
        return errorsTold[k];
    }

    // ---- helpers

    // Errors are counted where they arise: an answer may be any number, and be no error though it looks like one.
    private int refuse(int error) {
        int k = LOW - error;
        if (k >= 1 && k <= ERRORS) {
            errorsTold[k]++;
        }
        return error;
    }

    private boolean isFurrow(int furrow) {
        return furrow >= 0 && furrow < now.field.size;
    }

    // LONG and CROOK change apart from each other, so that a cheapest way may begin with either that is still other.
    private int firstReplyLine(Furrow from) {
        int length = longScale.leastFirstStep(from.length - 1);
        int crook = crookScale.leastFirstStep(from.crook);
        int byLength = 10 * (length + 1) + from.crook;
        int byCrook = 10 * from.length + crook;
        if (length < 0) {
            return crook < 0 ? -1 : byCrook;
        }
        return crook < 0 ? byLength : Math.min(byLength, byCrook);
    }

    private int linesThatEcho(Furrow last) {
        int good = 0;
        for (int i = 0; i < ALL_LINES; i++) {
            candidate.setLine(lineAt(i));
            if (candidate.echoes(last)) {
                good++;
            }
        }
        return good;
    }

    private static int commonDivisor(int part) {
        int divisor = ALL_LINES;
        while (divisor > 1 && (part % divisor != 0 || ALL_LINES % divisor != 0)) {
            divisor--;
        }
        return divisor;
    }

    private static boolean tellsLengths(Sheet row, Field field) {
        int seen = 0;
        for (int i = 0; i < field.size; i++) {
            Furrow one = field.furrows[i];
            if (!one.covered) {
                if (seen >= row.size || row.numbers[seen] != one.length) {
                    return false;
                }
                seen++;
            }
        }
        return seen == row.size;
    }

    private static boolean isKind(int kind) {
        return kind >= 0 && kind < KINDS;
    }

    private static boolean isKindWithNumber(int km) {
        return km >= 0 && km < 10 * KINDS;
    }

    private static boolean isLine(int lc) {
        return lc >= 10 && lc / 10 <= LONGS && lc % 10 < CROOKS;
    }

    private static int lineAt(int place) {
        return 10 * (1 + place / CROOKS) + place % CROOKS;
    }

    private static boolean isHand(int hand) {
        return hand >= 0 && hand < HANDS;
    }

    private static boolean isUse(int use) {
        return use >= 0 && use < USES;
    }

    private static boolean isSheet(int sheet) {
        return sheet >= 0 && sheet < SHEETS;
    }

    private static int asNumber(boolean is) {
        return is ? 1 : 0;
    }

    private static int hold(int v, int least, int most) {
        return Math.max(least, Math.min(most, v));
    }

    /** One FURROW. */
    private static final class Furrow {
        int kind;
        int m;
        int length = 1;
        int crook;
        int hand;
        int age;
        boolean covered;

        void setKindAndNumber(int km) {
            kind = km / 10;
            m = km % 10;
        }

        void setLine(int lc) {
            length = lc / 10;
            crook = lc % 10;
        }

        int line() {
            return 10 * length + crook;
        }

        boolean isOfKind(int asked) {
            int at = kind;
            for (int i = 0; i < KINDS && isKind(at); i++) {
                if (at == asked) {
                    return true;
                }
                at = KIND_ABOVE[at];
            }
            return false;
        }

        boolean echoes(Furrow to) {
            switch (kind) {
                case OATH: return length == to.length;
                case ROUND: return crook >= to.crook;
                case REPLY: return isAlike(to) || length + crook == to.length + to.crook;
                case SWORN: return length == to.length && crook == to.crook;
                case DIAMOND: return crook < to.crook;
                case DEEP: return isAlike(to) || hand == to.hand;
                default: return isAlike(to);
            }
        }

        private boolean isAlike(Furrow to) {
            return length == to.length || crook == to.crook;
        }

        int depth() {
            switch (kind) {
                case OATH: return m + 2;
                case ROUND: return 2 * m;
                case SWORN: return m + 2 + crook;
                case DIAMOND: return 2 * m - 1;
                case DEEP: return m + length;
                default: return m;
            }
        }

        void goUnheard(int patience) {
            age = Math.min(OLDEST, age + 1);
            if (age >= patience) {
                covered = true;
            }
        }

        void copyFrom(Furrow other) {
            kind = other.kind;
            m = other.m;
            length = other.length;
            crook = other.crook;
            hand = other.hand;
            age = other.age;
            covered = other.covered;
        }
    }

    /** The FURROWS with what makes their YEARS. */
    private static final class Field {
        final Furrow[] furrows = new Furrow[MOST_FURROWS];
        int size;
        int year;
        int patience = FIRST_PATIENCE;
        int z = 1;

        Field() {
            for (int i = 0; i < MOST_FURROWS; i++) {
                furrows[i] = new Furrow();
            }
        }

        int add(int km, int lc, int hand) {
            Furrow one = furrows[size];
            one.setKindAndNumber(km);
            one.setLine(lc);
            one.hand = hand;
            one.age = 0;
            one.covered = false;
            size++;
            return size - 1;
        }

        boolean echoes(int furrow, int to) {
            return furrows[furrow].echoes(furrows[to]);
        }

        // The nearest SEEN one ahead of a place, or -1.
        int seenAhead(int place) {
            int i = place - 1;
            while (i >= 0 && furrows[i].covered) {
                i--;
            }
            return i;
        }

        boolean isHeard(int furrow) {
            int next = furrow + 1;
            while (next < size && furrows[next].covered) {
                next++;
            }
            return next < size && echoes(next, furrow);
        }

        boolean isAnswer(int furrow) {
            if (furrows[furrow].covered) {
                return false;
            }
            int ahead = seenAhead(furrow);
            return ahead >= 0 && echoes(furrow, ahead);
        }

        int seenCount() {
            return Integer.bitCount(seenSet());
        }

        int seenSet() {
            int set = 0;
            for (int i = 0; i < size; i++) {
                if (!furrows[i].covered) {
                    set |= 1 << i;
                }
            }
            return set;
        }

        int answerCount() {
            int found = 0;
            for (int i = 0; i < size; i++) {
                if (isAnswer(i)) {
                    found++;
                }
            }
            return found;
        }

        int longestTalk() {
            int longest = 0;
            int length = 0;
            for (int i = 0; i < size; i++) {
                if (!furrows[i].covered) {
                    length = isAnswer(i) ? length + 1 : 1;
                    longest = Math.max(longest, length);
                }
            }
            return longest;
        }

        // From the last one on: so who is covered now has still been heard as at the year's begin.
        void passYear() {
            int next = -1;
            for (int i = size - 1; i >= 0; i--) {
                if (!furrows[i].covered) {
                    if (next < 0 || !echoes(next, i)) {
                        furrows[i].goUnheard(patience);
                    }
                    next = i;
                }
            }
            year++;
        }

        void passYears(int n) {
            for (int i = 0; i < n; i++) {
                passYear();
            }
        }

        void passYearByDraws() {
            if (size < MOST_FURROWS) {
                int kind = nextDraw() % KINDS;
                int line = lineAt(nextDraw() % ALL_LINES);
                int hand = nextDraw() % HANDS;
                add(10 * kind, line, hand);
            }
            passYear();
        }

        private int nextDraw() {
            z = z * 1103515245 + 12345;
            return z >>> 8;
        }

        void copyFrom(Field other) {
            for (int i = 0; i < other.size; i++) {
                furrows[i].copyFrom(other.furrows[i]);
            }
            size = other.size;
            year = other.year;
            patience = other.patience;
            z = other.z;
        }
    }

    /** All that an IMAGE keeps. */
    private static final class World {
        final Field field = new Field();
        final Law[] laws = new Law[USES];
        final byte[] tape = new byte[TAPE_SIZE];
        int tapeSize;
        final int[] waiting = new int[MOST_WAITING];
        int waitingSize;

        World() {
            for (int i = 0; i < USES; i++) {
                laws[i] = new Law();
            }
        }

        int giveUse(int use, int a, int b, int c) {
            Law law = laws[use];
            if (use == COST) {
                return hold(law.isGiven() ? law.workOut(a, b, c) : a + b, 1, DEAREST);
            }
            return hold(law.isGiven() ? law.workOut(a, b, c) : a * b, -MOST_SENSE, MOST_SENSE);
        }

        int senseOf(Furrow one) {
            return giveUse(1, one.length, one.crook, one.depth());
        }

        void copyFrom(World other) {
            field.copyFrom(other.field);
            for (int i = 0; i < USES; i++) {
                laws[i].copyFrom(other.laws[i]);
            }
            System.arraycopy(other.tape, 0, tape, 0, other.tapeSize);
            tapeSize = other.tapeSize;
            System.arraycopy(other.waiting, 0, waiting, 0, other.waitingSize);
            waitingSize = other.waitingSize;
        }
    }

    /** A TEXT as it is worked out: numbers, names and signs, each sign behind what it joins. */
    private static final class Law {
        static final int FIRST_NAME = -1;
        static final int LAST_NAME = -3;

        // A number stands as it is, the names as -1 to -3, a sign as its character below 0.
        final int[] parts = new int[TAPE_SIZE];
        int size;
        private final int[] stack = new int[TAPE_SIZE];
        private int stackSize;

        boolean isGiven() {
            return size > 0;
        }

        void clear() {
            size = 0;
        }

        void add(int part) {
            if (size < parts.length) {
                parts[size] = part;
                size++;
            }
        }

        void copyFrom(Law other) {
            System.arraycopy(other.parts, 0, parts, 0, other.size);
            size = other.size;
        }

        int workOut(int a, int b, int c) {
            stackSize = 0;
            for (int i = 0; i < size; i++) {
                int part = parts[i];
                if (part >= 0) {
                    push(part);
                } else if (part >= LAST_NAME) {
                    push(part == FIRST_NAME ? a : part == LAST_NAME ? c : b);
                } else if (part == -'!') {
                    push(asNumber(pop() == 0));
                } else {
                    int right = pop();
                    push(join(-part, pop(), right));
                }
            }
            return pop();
        }

        private void push(int v) {
            if (stackSize < stack.length) {
                stack[stackSize] = v;
                stackSize++;
            }
        }

        private int pop() {
            if (stackSize == 0) {
                return 0;
            }
            stackSize--;
            return stack[stackSize];
        }

        private static int join(int sign, int left, int right) {
            switch (sign) {
                case '|': return asNumber(left != 0 || right != 0);
                case '&': return asNumber(left != 0 && right != 0);
                case '<': return asNumber(left < right);
                case '=': return asNumber(left == right);
                case '>': return asNumber(left > right);
                case '+': return left + right;
                case '-': return left - right;
                case '*': return left * right;
                case '/': return right == 0 ? 0 : left / right;
                case '%': return right == 0 ? 0 : left % right;
                default: return 0;
            }
        }
    }

    /** Reads a TEXT from THE TAPE; stops at the FAULT, if there is one. */
    private static final class TextReader {
        private static final char[] NAMES = {'a', 'b', 'k', 'l', 'c', 'd'};
        private static final int NAMES_OF_USE = 3;
        private static final int COMPARING = 2;
        private static final int TIGHTEST = 4;
        private static final int MOST_OPEN = 5;
        private static final int MOST_DIGITS = 4;

        final Law draft = new Law();
        int place;
        private byte[] tape = new byte[0];
        private int tapeSize;
        private int use;

        boolean read(byte[] fedTape, int fedSize, int forUse) {
            tape = fedTape;
            tapeSize = fedSize;
            use = forUse;
            place = 0;
            draft.clear();
            return readJoined(0, 0) && place == tapeSize;
        }

        // The sign at the place, or 0 behind the end: a sign that no TEXT has.
        private int signHere() {
            return place < tapeSize && place < tape.length ? tape[place] : 0;
        }

        private boolean readJoined(int level, int open) {
            if (level > TIGHTEST) {
                return readSingle(open);
            }
            if (!readJoined(level + 1, open)) {
                return false;
            }
            int most = level == COMPARING ? 1 : TAPE_SIZE;
            for (int i = 0; i < most && levelOf(signHere()) == level; i++) {
                int sign = signHere();
                place++;
                if (!readJoined(level + 1, open)) {
                    return false;
                }
                draft.add(-sign);
            }
            return true;
        }

        private boolean readSingle(int open) {
            int sign = signHere();
            if (isDigit(sign)) {
                readNumber();
                return true;
            }
            if (sign != '!' && sign != '(') {
                return readName(sign);
            }
            if (open >= MOST_OPEN) {
                return false;
            }
            place++;
            return sign == '!' ? readNegated(open + 1) : readBracketed(open + 1);
        }

        private boolean readNegated(int open) {
            if (!readSingle(open)) {
                return false;
            }
            draft.add(-'!');
            return true;
        }

        private boolean readBracketed(int open) {
            if (!readJoined(0, open) || signHere() != ')') {
                return false;
            }
            place++;
            return true;
        }

        private void readNumber() {
            int number = 0;
            for (int i = 0; i < MOST_DIGITS && isDigit(signHere()); i++) {
                number = 10 * number + signHere() - '0';
                place++;
            }
            draft.add(number);
        }

        private boolean readName(int sign) {
            for (int i = 0; i < NAMES_OF_USE; i++) {
                if (NAMES[NAMES_OF_USE * use + i] == sign) {
                    draft.add(Law.FIRST_NAME - i);
                    place++;
                    return true;
                }
            }
            return false;
        }

        private static boolean isDigit(int sign) {
            return sign >= '0' && sign <= '9';
        }

        private static int levelOf(int sign) {
            switch (sign) {
                case '|': return 0;
                case '&': return 1;
                case '<': case '=': case '>': return COMPARING;
                case '+': case '-': return 3;
                case '*': case '/': case '%': return TIGHTEST;
                default: return -1;
            }
        }
    }

    /** Finds which of the SEEN ones stay, if FEWEST are covered. */
    private static final class Chains {
        // How many stay, above the set of them, so that of as many the greater set is the greater number.
        private final int[] bestEndingAt = new int[MOST_FURROWS];

        int bestSet(Field field) {
            int best = 0;
            for (int i = 0; i < field.size; i++) {
                if (!field.furrows[i].covered) {
                    bestEndingAt[i] = bestAhead(field, i) + (1 << MOST_FURROWS) + (1 << i);
                    best = Math.max(best, bestEndingAt[i]);
                }
            }
            return best & ((1 << MOST_FURROWS) - 1);
        }

        private int bestAhead(Field field, int furrow) {
            int best = 0;
            for (int i = 0; i < furrow; i++) {
                if (!field.furrows[i].covered && field.echoes(furrow, i)) {
                    best = Math.max(best, bestEndingAt[i]);
                }
            }
            return best;
        }
    }

    /** What the cheapest ways cost along the values of LONG, or of CROOK. */
    private static final class Scale {
        // Above each way's COST: that is 11 steps at most, of 99 each.
        private static final int UNREACHED = 1000000;

        // By how far a step goes; never below 1.
        final int[] stepCosts;
        // From each value to the goal.
        final int[] costs;
        private final boolean[] settled;

        Scale(int size) {
            stepCosts = new int[size];
            costs = new int[size];
            settled = new boolean[size];
        }

        void measureTo(int goal) {
            for (int i = 0; i < costs.length; i++) {
                costs[i] = i == goal ? 0 : UNREACHED;
                settled[i] = false;
            }
            for (int i = 0; i < costs.length; i++) {
                int next = cheapestUnsettled();
                if (next >= 0) {
                    settled[next] = true;
                    reachFrom(next);
                }
            }
        }

        private int cheapestUnsettled() {
            int best = -1;
            for (int i = 0; i < costs.length; i++) {
                if (!settled[i] && (best < 0 || costs[i] < costs[best])) {
                    best = i;
                }
            }
            return best;
        }

        private void reachFrom(int place) {
            for (int i = 0; i < costs.length; i++) {
                if (!settled[i]) {
                    costs[i] = Math.min(costs[i], costs[place] + stepCosts[Math.abs(i - place)]);
                }
            }
        }

        // The least value behind a first step of a cheapest way, or -1 at the goal.
        int leastFirstStep(int from) {
            for (int i = 0; i < costs.length; i++) {
                if (i != from && costs[i] + stepCosts[Math.abs(i - from)] == costs[from]) {
                    return i;
                }
            }
            return -1;
        }
    }

    /** Works out the VOICES, and keeps THE TRACE. */
    private static final class Speaker {
        final int[] trace = new int[TRACE_SIZE];
        int traceSize;
        boolean parted;
        private int kind;
        private int k;
        private int m;

        int speak(Furrow one, int number, int voice, int x) {
            parted = false;
            traceSize = 0;
            kind = one.kind;
            k = number;
            m = one.m;
            switch (voice) {
                case 0: return says(kind, x);
                case 1: return asks(kind, x);
                case 2: return hums(kind, x);
                default: return parts(kind, x);
            }
        }

        private void begin(int body) {
            if (traceSize < TRACE_SIZE) {
                trace[traceSize] = body;
                traceSize++;
            }
        }

        private int says(int from, int x) {
            switch (from) {
                case OATH:
                    begin(20);
                    return says(FURROW, x) - 4;
                case SWORN:
                    begin(50);
                    return says(OATH, x) * 3;
                case DEEP:
                    begin(70);
                    return 9;
                default:
                    begin(10);
                    return x + k;
            }
        }

        private int asks(int from, int x) {
            switch (from) {
                case ROUND:
                    begin(30);
                    return 0 - asks(FURROW, x);
                case DIAMOND:
                    begin(60);
                    return asks(ROUND, x + 1);
                case DEEP:
                    begin(71);
                    return asks(FURROW, x) + m;
                default:
                    begin(11);
                    return says(kind, x) * 2;
            }
        }

        private int hums(int from, int x) {
            switch (from) {
                case REPLY:
                    begin(40);
                    return hums(FURROW, x / 2);
                case SWORN:
                    begin(51);
                    return hums(OATH, x) ^ k;
                default:
                    begin(12);
                    return asks(kind, x) - m;
            }
        }

        private int parts(int from, int x) {
            switch (from) {
                case OATH:
                case SWORN:
                    begin(21);
                    int left = parts(FURROW, x);
                    // What stands behind a BODY that parted doesn't begin any more.
                    return parted ? 0 : left + asks(kind, 1);
                default:
                    begin(13);
                    if (m == k) {
                        parted = true;
                        return 0;
                    }
                    return x / (m - k);
            }
        }
    }

    /** A SHEET: its numbers are held wide, and cut to its bits as they are written. */
    private static final class Sheet {
        final int[] numbers = new int[SHEET_SIZE];
        int bits;
        int size;

        boolean isMissing() {
            return bits == 0;
        }

        void lay(int newBits, int newSize) {
            bits = newBits;
            size = newSize;
            for (int i = 0; i < SHEET_SIZE; i++) {
                numbers[i] = 0;
            }
        }

        void write(int i, int v) {
            numbers[i] = bits == 8 ? (byte) v : bits == 16 ? (short) v : v;
        }

        boolean holds(int from, int n) {
            return from >= 0 && n >= 0 && n <= size && from <= size - n;
        }
    }
}
