/** Sentences that name a boundary: of SHEETS in Terms 4, and of promises 26 to 36. */
public final class SheetBoundsTest {
    private static final long BEYOND = Checks.BEYOND;
    private static final long NONE = Checks.NONE;
    private static final long STATE = Checks.STATE;
    private static final long FULL = Checks.FULL;
    private static final long KIND = Checks.KIND;
    private static final int MIN = Integer.MIN_VALUE;
    private static final int MAX = Integer.MAX_VALUE;
    private static final int[] NO_SHEETS = {-1, 4, MIN, MAX};

    private SheetBoundsTest() {
    }

    public static void main(String[] args) {
        sheets();
        sheet();
        sheetAnew();
        put();
        putLowestBits();
        move();
        moveWithin();
        moveRefused();
        moveKinds();
        lines();
        judge();
        image();
        imageLeavesOut();
        restore();
        restoreEach();
        restoreFurrows();
        tell();
        check();
        checkOfTwelve();
        count();
        told();
        Checks.end();
    }

    private static void due(String what, long got, long want) {
        Checks.due(what, got, want);
    }

    private static void sheets() {
        Checks.sentence("SHEETS 0 .. 3 are rows of 8, 16, 32 bits, at most 24 numbers, or missing (as at first).");
        FurrowTalk x = new FurrowTalk();
        for (int s = 0; s < 4; s++) {
            due("missing " + s, x.judge(s), NONE);
            for (int bits = 8; bits <= 32; bits *= 2) {
                due("24 numbers", x.sheet(s, bits, 24), 1);
                due("the last", x.put(s, 23, 1), 1);
                due("no more", x.put(s, 24, 1), BEYOND);
                due("25 numbers", x.sheet(s, bits, 25), BEYOND);
                due("there are 24 still", x.put(s, 23, 1), 1);
                due("no numbers", x.sheet(s, bits, 0), 1);
                due("not one", x.put(s, 0, 1), BEYOND);
            }
            due("it is not missing", x.judge(s), 0);
        }
    }

    private static void sheet() {
        Checks.sentence("A SHEET has n numbers, all 0, of so many bits (8, 16, 32; 0: it is missing, n doesn't"
            + " matter): 1. BEYOND. STATE: n is below 0 (ahead of BEYOND of n).");
        FurrowTalk x = new FurrowTalk();
        due("there", x.sheet(1, 16, 3), 1);
        for (int n : new int[] {0, 25, -1, MIN, MAX}) {
            due("missing, n " + n, x.sheet(1, 0, n), 1);
            due("it is missing", x.put(1, 0, 0), NONE);
            due("there", x.sheet(1, 16, 3), 1);
        }
        for (int n : new int[] {-1, -25, MIN}) {
            due("n " + n, x.sheet(1, 8, n), STATE);
        }
        for (int n : new int[] {25, MAX}) {
            due("n " + n, x.sheet(1, 8, n), BEYOND);
        }
        for (int bits : new int[] {-8, -1, 1, 4, 7, 9, 15, 17, 24, 31, 33, 64, MIN, MAX}) {
            due("bits " + bits, x.sheet(1, bits, 3), BEYOND);
            due("bits " + bits + ", n -1", x.sheet(1, bits, -1), BEYOND);
        }
        for (int s : NO_SHEETS) {
            due("SHEET " + s, x.sheet(s, 8, 3), BEYOND);
            due("SHEET " + s + ", n -1", x.sheet(s, 8, -1), BEYOND);
            due("SHEET " + s + ", missing", x.sheet(s, 0, 0), BEYOND);
        }
        due("there are three numbers still", x.put(1, 2, 0), 1);
        due("not four", x.put(1, 3, 0), BEYOND);
    }

    private static void sheetAnew() {
        FurrowTalk x = Given.twelve();
        Given.row(x, 0, 8, 11, 11, 11, 11, 11, 11, 11, 11, 11, 11, 11, 11, 11, 11);
        due("lines", x.lines(0), 12);
        due("anew", x.sheet(0, 8, 14), 1);
        due("all 0", x.lines(0), 0);
        for (int i = 0; i < 12; i++) {
            due("0 as SENSE of CROOK 0", x.redraw(i, 10), 11);
        }
        due("12 are 0", x.judge(0), 12);
        Given.row(x, 0, 16, 9, 9, 9);
        due("missing", x.sheet(0, 0, 0), 1);
        due("anew, of other bits", x.sheet(0, 32, 3), 1);
        due("all 0, too", x.judge(0), 3);
    }

    private static void put() {
        Checks.sentence("Number i of a SHEET becomes v (its lowest bits): 1. BEYOND: no such SHEET. NONE: it is"
            + " missing. BEYOND: no such number.");
        FurrowTalk x = new FurrowTalk();
        for (int s : NO_SHEETS) {
            due("SHEET " + s, x.put(s, 0, 1), BEYOND);
        }
        for (int s = 0; s < 4; s++) {
            due("missing " + s, x.put(s, 0, 1), NONE);
            due("missing, number -1", x.put(s, -1, 1), NONE);
        }
        x.sheet(0, 8, 2);
        due("the first", x.put(0, 0, 1), 1);
        due("the last", x.put(0, 1, 1), 1);
        for (int i : new int[] {2, 23, 24, -1, MIN, MAX}) {
            due("number " + i, x.put(0, i, 1), BEYOND);
        }
    }

    /** Whether a number that was put into a row of so many bits is what SENSE is. */
    private static void kept(int bits, int v, String sense, boolean is) {
        FurrowTalk x = Given.furrows(0, 10, 0);
        due("text " + sense, Given.text(x, 1, sense), 1);
        Given.row(x, 0, bits, v);
        due(v + " of " + bits + " bits is " + sense, x.judge(0), is ? 1 : 0);
    }

    private static void putLowestBits() {
        Checks.sentence("becomes v (its lowest bits)");
        kept(8, 99, "99", true);
        kept(8, 256 + 99, "99", true);
        kept(8, 99 - 256, "99", true);
        kept(8, 256, "0", true);
        kept(8, MIN, "0", true);
        kept(8, MAX, "0-1", true);
        kept(8, 255, "0-1", true);
        kept(8, 157, "0-99", true);
        kept(16, 256 + 99, "99", false);
        kept(16, 65536 + 99, "99", true);
        kept(16, 99 - 65536, "99", true);
        kept(16, MIN, "0", true);
        kept(16, MAX, "0-1", true);
        kept(16, 65535, "0-1", true);
        kept(16, 65437, "0-99", true);
        kept(16, 255, "0-1", false);
        kept(32, 65536 + 99, "99", false);
        kept(32, 65535, "0-1", false);
        kept(32, -1, "0-1", true);
        kept(32, -99, "0-99", true);
        kept(32, MIN, "0", false);
        kept(32, 99, "99", true);
    }

    /** The first numbers of a SHEET, which have to be LINES. */
    private static void rowIs(String what, FurrowTalk x, int sheet, int... lc) {
        due(what, x.lines(sheet) >= lc.length ? 1 : 0, 1);
        for (int i = 0; i < lc.length; i++) {
            due(what + ", number " + i, 10 * x.furrowIs(i, 2) + x.furrowIs(i, 3), lc[i]);
        }
    }

    private static void move() {
        Checks.sentence("n numbers of a SHEET, from number i on, come to another one (or the same), from its number"
            + " j on, as they all were: n.");
        FurrowTalk x = Given.twelve();
        for (int bits = 8; bits <= 32; bits *= 2) {
            Given.row(x, 0, bits, 10, 11, 12, 13, 14, 15, 20, 21, 22, 23, 24, 25);
            x.sheet(1, bits, 24);
            due("to the end", x.move(0, 0, 1, 12, 12), 12);
            due("nothing at the front", x.lines(1), 0);
            due("back to the front", x.move(1, 12, 1, 0, 12), 12);
            rowIs("all", x, 1, 10, 11, 12, 13, 14, 15, 20, 21, 22, 23, 24, 25);
            due("the last number", x.move(0, 11, 1, 0, 1), 1);
            rowIs("the last number", x, 1, 25, 11, 12, 13);
            due("none", x.move(0, 0, 1, 0, 0), 0);
            due("none, from the end", x.move(0, 12, 1, 24, 0), 0);
            rowIs("nothing came", x, 1, 25, 11, 12, 13);
            rowIs("what was moved stays", x, 0, 10, 11, 12, 13, 14, 15, 20, 21, 22, 23, 24, 25);
        }
    }

    private static void moveWithin() {
        FurrowTalk x = Given.twelve();
        Given.row(x, 0, 8, 10, 11, 12, 13, 14, 15, 20, 21, 22, 23, 24, 25);
        due("up by one", x.move(0, 0, 0, 1, 11), 11);
        rowIs("up by one", x, 0, 10, 10, 11, 12, 13, 14, 15, 20, 21, 22, 23, 24);
        due("down by one", x.move(0, 1, 0, 0, 11), 11);
        rowIs("down by one", x, 0, 10, 11, 12, 13, 14, 15, 20, 21, 22, 23, 24, 24);
        due("on itself", x.move(0, 0, 0, 0, 12), 12);
        rowIs("on itself", x, 0, 10, 11, 12, 13, 14, 15, 20, 21, 22, 23, 24, 24);
        due("up by three", x.move(0, 2, 0, 5, 6), 6);
        rowIs("up by three", x, 0, 10, 11, 12, 13, 14, 12, 13, 14, 15, 20, 21, 24);
    }

    private static void moveRefused() {
        Checks.sentence("BEYOND: n, i, or j is below 0, or they don't stand there.");
        FurrowTalk x = Given.twelve();
        Given.row(x, 0, 8, 10, 11, 12, 13);
        Given.row(x, 1, 8, 20, 21);
        int[][] bad = {{0, 0, -1}, {-1, 0, 1}, {0, -1, 1}, {-1, 0, 0}, {0, -1, 0}, {0, 0, 3}, {0, 0, 5}, {3, 0, 2},
            {4, 0, 1}, {0, 1, 2}, {0, 2, 1}, {5, 0, 0}, {0, 3, 0}, {MIN, 0, 1}, {0, MIN, 1}, {0, 0, MIN}, {MAX, 0, 1},
            {0, MAX, 1}, {0, 0, MAX}, {MAX, 0, MAX}, {0, MAX, MAX}, {1, 1, MAX}, {MIN, MIN, MIN}, {MAX, MAX, MAX},
            {MIN, 0, MIN}, {2, 0, MAX - 1}};
        for (int[] b : bad) {
            due(b[0] + ", " + b[1] + ", " + b[2], x.move(0, b[0], 1, b[1], b[2]), BEYOND);
        }
        rowIs("nothing came", x, 1, 20, 21);
        due("from the shorter one", x.move(1, 0, 0, 0, 3), BEYOND);
        due("just from the shorter one", x.move(1, 0, 0, 2, 2), 2);
        rowIs("they came", x, 0, 10, 11, 20, 21);
        x.sheet(2, 8, 0);
        due("one of a row of none", x.move(2, 0, 0, 0, 1), BEYOND);
        due("one to a row of none", x.move(0, 0, 2, 0, 1), BEYOND);
        due("none of a row of none", x.move(2, 0, 2, 0, 0), 0);
    }

    private static void moveKinds() {
        Checks.sentence("BEYOND: no such SHEET. NONE: one is missing. KIND: they are of unlike bits.");
        FurrowTalk x = new FurrowTalk();
        x.sheet(0, 8, 2);
        x.sheet(1, 16, 2);
        x.sheet(2, 32, 2);
        for (int s : NO_SHEETS) {
            due("SHEET " + s, x.move(s, 0, 0, 0, 1), BEYOND);
            due("other " + s, x.move(0, 0, s, 0, 1), BEYOND);
        }
        due("missing", x.move(3, 0, 0, 0, 1), NONE);
        due("other missing", x.move(0, 0, 3, 0, 1), NONE);
        due("both missing", x.move(3, 0, 3, 0, 1), NONE);
        for (int s = 0; s < 3; s++) {
            for (int other = 0; other < 3; other++) {
                due(s + " to " + other, x.move(s, 0, other, 0, 2), s == other ? 2 : KIND);
                due(s + " to " + other + ", none", x.move(s, 0, other, 0, 0), s == other ? 0 : KIND);
            }
        }
    }

    private static void lines() {
        Checks.sentence("Numbers of a SHEET become LINES of FURROWS 0, 1, ..: how many, up to the first that is no"
            + " LINE (no ERROR then), or for which there is no FURROW. BEYOND: no such SHEET. NONE: it is missing.");
        FurrowTalk x = Given.twelve();
        Given.row(x, 0, 8, 125, 10, 15, 120, 11, 12, 13, 14, 21, 22, 23, 24, 25, 31);
        due("no 13th FURROW", x.lines(0), 12);
        rowIs("all 12", x, 0, 125, 10, 15, 120, 11, 12, 13, 14, 21, 22, 23, 24);
        for (int bad : new int[] {0, 9, 16, 19, 116, 126, 130, -10, -125, MIN, MAX, 65546}) {
            Given.row(x, 1, 32, 33, bad, 44);
            due("no LINE " + bad, x.lines(1), 1);
            due("the one behind stays", x.furrowIs(2, 2), 1);
        }
        due("no ERROR", x.told(1), 0);
        Given.row(x, 1, 32, 9, 44);
        due("not even the first", x.lines(1), 0);
        x.sheet(1, 8, 0);
        due("no numbers", x.lines(1), 0);
        due("missing", x.lines(2), NONE);
        for (int s : NO_SHEETS) {
            due("SHEET " + s, x.lines(s), BEYOND);
        }
        FurrowTalk y = new FurrowTalk();
        Given.row(y, 0, 8, 10);
        due("no FURROWS", y.lines(0), 0);
    }

    private static void judge() {
        Checks.sentence("Numbers of a SHEET are SENSE of FURROWS 0, 1, ..: how many are right, from the first on."
            + " BEYOND: no such SHEET. NONE: it is missing.");
        FurrowTalk x = Given.twelve();
        for (int i = 0; i < 12; i++) {
            x.redraw(i, 15);
        }
        Given.row(x, 0, 8, 5, 5, 5, 5, 5, 5, 5, 5, 5, 5, 5, 5, 5);
        due("no 13th FURROW", x.judge(0), 12);
        for (int i = 11; i >= 0; i--) {
            x.put(0, i, 6);
            due("the first wrong one is " + i, x.judge(0), i);
        }
        x.sheet(0, 8, 0);
        due("no numbers", x.judge(0), 0);
        Given.row(x, 0, 8, 5, 5);
        due("fewer numbers", x.judge(0), 2);
        due("missing", x.judge(1), NONE);
        for (int s : NO_SHEETS) {
            due("SHEET " + s, x.judge(s), BEYOND);
        }
        FurrowTalk y = new FurrowTalk();
        y.sheet(0, 8, 3);
        due("no FURROWS", y.judge(0), 0);
    }

    private static void image() {
        Checks.sentence("All (but SHEETS, THE TRACE, what told() tells, and how often this was done) is kept as an"
            + " IMAGE, in place of one ahead: how often that was done.");
        FurrowTalk x = new FurrowTalk();
        due("of nothing", x.image(), 1);
        x.plough(69, 125, 5);
        due("restored to nothing", x.restore(), 0);
        due("no FURROWS", x.count(0), 0);
        x.plough(69, 125, 5);
        due("in place of one ahead", x.image(), 2);
        x.restore();
        due("one FURROW", x.count(0), 1);
        for (int i = 1; i < 12; i++) {
            x.plough(0, 10, 0);
        }
        due("of 12", x.image(), 3);
        x.cover(11, 1);
        x.restore();
        due("12 FURROWS", x.count(1), 12);
    }

    private static void imageLeavesOut() {
        FurrowTalk x = Given.furrows(0, 10, 0);
        Given.row(x, 0, 8, 11);
        x.voice(0, 0, 0);
        x.told(0);
        x.image();
        Given.row(x, 0, 16, 12, 13);
        Given.row(x, 1, 32, 14);
        x.voice(0, 2, 0);
        x.told(0);
        x.restore();
        due("a SHEET as it is", x.lines(0), 1);
        due("its number", x.furrowIs(0, 3), 2);
        due("another SHEET as it is", x.lines(1), 1);
        due("THE TRACE as it is", x.count(6), 3);
        due("told as it is", x.told(1), 2);
        due("how often", x.image(), 2);
    }

    private static void restore() {
        Checks.sentence("All is as the IMAGE has it, which stays: YEAR. NONE: there is none.");
        FurrowTalk x = new FurrowTalk();
        due("there is none", x.restore(), NONE);
        Given.atYear(x, 9999);
        due("there is none still", x.restore(), NONE);
        due("YEAR stays", x.count(2), 9999);
        x.image();
        due("YEAR 9999", x.restore(), 9999);
        due("it stays", x.restore(), 9999);
        FurrowTalk y = new FurrowTalk();
        y.image();
        y.years(60);
        due("YEAR 0", y.restore(), 0);
        due("and so it is", y.count(2), 0);
    }

    private static void restoreEach() {
        FurrowTalk x = Given.twelve();
        x.patience(20);
        x.years(19);
        x.seed(MIN);
        Given.text(x, 0, "7");
        Given.feed(x, "123456781234567812345678123456781234567812345678123456781234");
        for (int i = 0; i < 24; i++) {
            x.tell(i < 11 ? 0 : 19);
        }
        x.image();
        x.years(60);
        x.patience(1);
        x.seed(3);
        x.untell(0);
        x.text(1);
        Given.text(x, 1, "5");
        Given.feed(x, "xxxxxxxx");
        x.check();
        for (int i = 0; i < 24; i++) {
            x.tell(7);
        }
        for (int i = 0; i < 2; i++) {
            due("YEAR", x.restore(), 19);
            long[] is = {12, 12, 19, 20, 60, 24, 0, MIN};
            for (int what = 0; what < is.length; what++) {
                due("count(" + what + ")", x.count(what), is[what]);
            }
            due("AGE of the last", x.furrowIs(11, 5), 19);
            due("the TEXT that was", x.law(0, 0, 0, 0), 7);
            due("no TEXT that wasn't", x.untell(1), 0);
            due("the bytes", x.text(1), -14);
            due("the numbers that wait", x.check(), 13);
            x.cover(0, 1);
            x.untell(0);
        }
    }

    private static void restoreFurrows() {
        FurrowTalk x = Given.furrows(69, 125, 5, 10, 10, 0);
        x.cover(1, 1);
        x.years(2);
        x.image();
        x.become(0, 0);
        x.redraw(0, 10);
        x.cover(0, 1);
        x.cover(1, 0);
        x.years(1);
        x.plough(55, 64, 3);
        x.years(4);
        due("YEAR", x.restore(), 2);
        due("two FURROWS", x.count(0), 2);
        long[] first = {6, 9, 12, 5, 5, 2, 0};
        long[] second = {1, 0, 1, 0, 0, 0, 1};
        for (int what = 0; what < first.length; what++) {
            due("the first, " + what, x.furrowIs(0, what), first[what]);
            due("the second, " + what, x.furrowIs(1, what), second[what]);
        }
        FurrowTalk y = new FurrowTalk();
        y.image();
        y.plough(69, 125, 5);
        y.restore();
        y.plough(0, 10, 0);
        due("m of another one in its place", y.furrowIs(0, 1), 0);
        due("HAND of another one in its place", y.furrowIs(0, 4), 0);
        y.image();
        y.become(0, 69);
        y.restore();
        due("m as it was", y.furrowIs(0, 1), 0);
    }

    private static void tell() {
        Checks.sentence("One more number waits: how many. FULL: 24 wait.");
        FurrowTalk x = new FurrowTalk();
        for (int i = 1; i <= 24; i++) {
            due("number " + i, x.tell(i % 2 == 0 ? MIN : MAX), i);
        }
        due("the 25th", x.tell(0), FULL);
        due("24 wait", x.count(5), 24);
        due("the 25th again", x.tell(0), FULL);
        due("none wait then", x.check(), 1);
        due("the first", x.tell(0), 1);
    }

    private static void check() {
        Checks.sentence("The numbers that wait (none do then) are AGES of FURROWS 0, 1, ..: 0; else 1 and the place"
            + " (from 0) of the first that isn't so (or for which there is no FURROW).");
        FurrowTalk x = new FurrowTalk();
        due("none wait", x.check(), 0);
        x.tell(0);
        due("no FURROWS", x.check(), 1);
        due("none do then", x.count(5), 0);
        due("none wait any more", x.check(), 0);
        x.plough(0, 10, 0);
        x.plough(0, 21, 0);
        x.years(1);
        x.tell(1);
        due("fewer than FURROWS", x.check(), 0);
        x.tell(1);
        x.tell(1);
        due("as many", x.check(), 0);
        x.tell(1);
        x.tell(1);
        x.tell(0);
        due("one more", x.check(), 3);
        x.tell(1);
        x.tell(257);
        due("not the second", x.check(), 2);
        x.tell(MIN);
        x.tell(MAX);
        due("not the first", x.check(), 1);
        due("none do then", x.count(5), 0);
    }

    private static void checkOfTwelve() {
        FurrowTalk x = Given.twelve();
        for (int i = 0; i < 24; i++) {
            x.tell(0);
        }
        due("no 13th FURROW", x.check(), 13);
        for (int i = 0; i < 12; i++) {
            x.tell(0);
        }
        due("all 12", x.check(), 0);
        for (int i = 0; i < 12; i++) {
            x.tell(i < 11 ? 0 : 1);
        }
        due("not the 12th", x.check(), 12);
        FurrowTalk y = Given.furrows(0, 10, 0);
        y.patience(1);
        for (int i = 0; i < 100; i++) {
            y.cover(0, 0);
            y.years(1);
        }
        y.tell(99);
        due("the greatest AGE", y.check(), 0);
        y.tell(100);
        due("no greater one", y.check(), 1);
    }

    private static void count() {
        Checks.sentence("0 FURROWS, 1 how many are SEEN, 2 YEAR, 3 PATIENCE, 4 bytes of THE TAPE, 5 numbers that"
            + " wait, 6 BODIES in THE TRACE, 7 z (any number). BEYOND.");
        FurrowTalk x = new FurrowTalk();
        Given.atYear(x, 9999);
        for (int i = 0; i < 12; i++) {
            x.plough(41, 10, 0);
        }
        x.patience(20);
        for (int i = 0; i < 60; i++) {
            x.feed(0, 1);
        }
        for (int i = 0; i < 24; i++) {
            x.tell(0);
        }
        x.voice(0, 3, 0);
        x.seed(MIN);
        long[] is = {12, 12, 9999, 20, 60, 24, 6, MIN};
        for (int what = 0; what < is.length; what++) {
            due("count(" + what + ")", x.count(what), is[what]);
        }
        for (int what : new int[] {-1, 8, MIN, MAX}) {
            due("what " + what, x.count(what), BEYOND);
        }
        due("z is no ERROR", x.told(1), 4);
    }

    private static void told() {
        Checks.sentence("How many acts have answered an ERROR LOW - k (k 1 .. 6); BEYOND: another k (counted, too).");
        FurrowTalk x = new FurrowTalk();
        for (int k = 1; k <= 6; k++) {
            due("none, " + k, x.told(k), 0);
        }
        int[] others = {0, 7, -1, MIN, MAX};
        for (int i = 0; i < others.length; i++) {
            due("k " + others[i], x.told(others[i]), BEYOND);
            due("counted, too", x.told(1), i + 1);
            due("told(1) itself is no ERROR", x.told(1), i + 1);
        }
        x.restore();
        x.body(0);
        x.judge(0);
        due("NONE", x.told(2), 3);
        due("BEYOND as it was", x.told(1), 5);
        for (int k = 3; k <= 6; k++) {
            due("none still, " + k, x.told(k), 0);
        }
    }
}
