import java.util.function.IntSupplier;

/** For each promise its ordinary answers, its edges and its wrong inputs, worked out by hand from the document. */
public final class PromiseTest {
    private static final long BEYOND = Checks.BEYOND;
    private static final long NONE = Checks.NONE;
    private static final long STATE = Checks.STATE;
    private static final long FULL = Checks.FULL;
    private static final long KIND = Checks.KIND;
    private static final long PARTED = Checks.PARTED;
    private static final int MIN = Integer.MIN_VALUE;
    private static final int MAX = Integer.MAX_VALUE;

    private PromiseTest() {
    }

    public static void main(String[] args) {
        promise1();
        promise2();
        promise3();
        promise3Heard();
        promise4();
        promise5();
        promise6();
        promise7();
        promise8();
        promise9();
        promise10();
        promise11();
        promise11Faults();
        promise11Open();
        promise12();
        promise13();
        promise13Signs();
        promise13Ints();
        promise14();
        promise14Ages();
        promise15();
        promise16();
        promise17();
        promise18();
        promise19();
        promise20();
        promise21();
        promise21Texts();
        promise22();
        promise23();
        promise24();
        promise24Parts();
        promise25();
        promise26();
        promise27();
        promise28();
        promise29();
        promise30();
        promise31();
        promise32();
        promise33();
        promise34();
        promise35();
        promise36();
        promise36Furrows();
        promise36Texts();
        promise36Sheets();
        Checks.end();
    }

    private static void due(String what, long got, long want) {
        Checks.due(what, got, want);
    }

    private static void promise1() {
        FurrowTalk x = new FurrowTalk();
        long[] first = {0, 0, 0, 5, 0, 0, 0, 1};
        for (int i = 0; i < first.length; i++) {
            due("1 count(" + i + ")", x.count(i), first[i]);
        }
        for (int k = 1; k <= 6; k++) {
            due("1 told(" + k + ")", x.told(k), 0);
        }
        due("1 untell(0)", x.untell(0), 0);
        due("1 untell(1)", x.untell(1), 0);
        due("1 body(0)", x.body(0), NONE);
        for (int s = 0; s < 4; s++) {
            due("1 lines(" + s + ")", x.lines(s), NONE);
        }
        due("1 restore()", x.restore(), NONE);
        due("1 check()", x.check(), 0);
        due("1 then", x.then(60, 1), 0);
        due("1 image", x.image(), 1);
        FurrowTalk other = new FurrowTalk();
        x.plough(0, 10, 0);
        due("1 objects apart", other.count(0), 0);
    }

    private static void promise2() {
        FurrowTalk x = Given.furrows(0, 10, 0, 69, 125, 5);
        due("2 KIND", x.furrowIs(1, 0), 6);
        due("2 m", x.furrowIs(1, 1), 9);
        due("2 LONG", x.furrowIs(1, 2), 12);
        due("2 CROOK", x.furrowIs(1, 3), 5);
        due("2 HAND", x.furrowIs(1, 4), 5);
        due("2 AGE", x.furrowIs(1, 5), 0);
        due("2 COVERED", x.furrowIs(1, 6), 0);
        int[][] bad = {{-1, 10, 0}, {70, 10, 0}, {MIN, 10, 0}, {MAX, 10, 0}, {0, 9, 0}, {0, 5, 0}, {0, 0, 0},
            {0, 16, 0}, {0, 19, 0}, {0, 126, 0}, {0, 130, 0}, {0, -10, 0}, {0, -121, 0}, {0, MIN, 0}, {0, MAX, 0},
            {0, 10, -1}, {0, 10, 6}};
        for (int[] b : bad) {
            due("2 bad " + b[0] + " " + b[1] + " " + b[2], x.plough(b[0], b[1], b[2]), BEYOND);
        }
        due("2 nothing changed", x.count(0), 2);
        FurrowTalk y = Given.twelve();
        due("2 FULL", y.plough(0, 10, 0), FULL);
        due("2 BEYOND ahead of FULL", y.plough(70, 10, 0), BEYOND);
        due("2 BEYOND of a hand ahead of FULL", y.plough(0, 10, 6), BEYOND);
        due("2 still 12", y.count(0), 12);
        FurrowTalk z = new FurrowTalk();
        z.image();
        z.plough(0, 10, 0);
        z.years(6);
        z.restore();
        z.plough(0, 10, 0);
        due("2 AGE 0 where there was another one", z.furrowIs(0, 5), 0);
        due("2 not COVERED, either", z.furrowIs(0, 6), 0);
        y.cover(3, 1);
        due("2 FULL with a COVERED one", y.plough(0, 10, 0), FULL);
    }

    private static void promise3() {
        FurrowTalk x = Given.furrows(4, 35, 1, 14, 35, 2, 24, 35, 3, 34, 35, 4, 44, 35, 5, 54, 35, 0, 64, 35, 1,
            50, 10, 0);
        long[] depth = {4, 6, 8, 4, 11, 7, 7, -1};
        for (int i = 0; i < depth.length; i++) {
            due("3 DEPTH of " + i, x.furrowIs(i, 7), depth[i]);
        }
        due("3 SENSE without a TEXT", x.furrowIs(0, 8), 15);
        due("3 SENSE of CROOK 0", x.furrowIs(7, 8), 0);
        due("3 text", Given.text(x, 1, "l*100+c*10+d-300"), 1);
        due("3 SENSE by a TEXT", x.furrowIs(0, 8), 54);
        due("3 SENSE by DEPTH", x.furrowIs(4, 8), 61);
        due("3 SENSE held below", x.furrowIs(7, 8), -99);
        Given.text(x, 1, "l*c*d");
        due("3 SENSE held above", x.furrowIs(4, 8), 99);
        due("3 LONG", x.furrowIs(3, 2), 3);
        due("3 CROOK", x.furrowIs(3, 3), 5);
        due("3 HAND", x.furrowIs(3, 4), 4);
        due("3 what -1", x.furrowIs(0, -1), BEYOND);
        due("3 what 10", x.furrowIs(0, 10), BEYOND);
        due("3 furrow -1", x.furrowIs(-1, 0), BEYOND);
        due("3 furrow 8", x.furrowIs(8, 0), BEYOND);
        due("3 furrow MAX", x.furrowIs(MAX, 0), BEYOND);
        due("3 of no FURROWS", new FurrowTalk().furrowIs(0, 0), BEYOND);
    }

    private static void promise3Heard() {
        FurrowTalk x = Given.furrows(0, 42, 0, 0, 45, 1, 0, 31, 2);
        due("3 HEARD", x.furrowIs(0, 9), 1);
        due("3 not HEARD", x.furrowIs(1, 9), 0);
        due("3 the last one is not HEARD", x.furrowIs(2, 9), 0);
        x.cover(1, 1);
        due("3 the next SEEN one doesn't answer", x.furrowIs(0, 9), 0);
        x.redraw(2, 41);
        due("3 the next SEEN one answers", x.furrowIs(0, 9), 1);
        due("3 a COVERED one can be HEARD", x.furrowIs(1, 9), 1);
        x.cover(2, 1);
        due("3 none is SEEN behind", x.furrowIs(0, 9), 0);
        FurrowTalk y = Given.furrows(20, 32, 0, 0, 31, 0);
        due("3 that ANSWERS by its own KIND", y.furrowIs(0, 9), 1);
        y.become(1, 20);
        due("3 as a ROUND it doesn't", y.furrowIs(0, 9), 0);
        due("3 COVERED", y.cover(0, 1), 0);
        due("3 what 6", y.furrowIs(0, 6), 1);
        y.cover(0, 0);
        y.years(2);
        due("3 AGE", y.furrowIs(0, 5), 2);
    }

    private static void promise4() {
        FurrowTalk x = Given.furrows(12, 34, 5);
        due("4 was OATH", x.become(0, 69), 1);
        due("4 KIND", x.furrowIs(0, 0), 6);
        due("4 m", x.furrowIs(0, 1), 9);
        due("4 LINE stays", x.furrowIs(0, 2), 3);
        due("4 HAND stays", x.furrowIs(0, 4), 5);
        due("4 was DEEP", x.become(0, 0), 6);
        due("4 was FURROW", x.become(0, 30), 0);
        due("4 km 70", x.become(0, 70), BEYOND);
        due("4 km -1", x.become(0, -1), BEYOND);
        due("4 furrow 1", x.become(1, 0), BEYOND);
        due("4 furrow -1", x.become(-1, 0), BEYOND);
        due("4 stays REPLY", x.furrowIs(0, 0), 3);
        x.years(1);
        x.become(0, 11);
        due("4 AGE stays", x.furrowIs(0, 5), 1);
    }

    private static void promise5() {
        FurrowTalk x = Given.furrows(1, 10, 0, 12, 10, 0, 23, 10, 0, 34, 10, 0, 45, 10, 0, 56, 10, 0, 67, 10, 0);
        String[] kinds = {"0", "01", "02", "03", "014", "025", "06"};
        for (int f = 0; f < 7; f++) {
            for (int kind = 0; kind < 7; kind++) {
                boolean is = kinds[f].indexOf('0' + kind) >= 0;
                due("5 as(" + f + ", " + kind + ")", x.as(f, kind), is ? f + 1 : KIND);
            }
        }
        due("5 kind 7", x.as(0, 7), BEYOND);
        due("5 kind -1", x.as(0, -1), BEYOND);
        due("5 furrow 7", x.as(7, 0), BEYOND);
        due("5 furrow -1", x.as(-1, 6), BEYOND);
    }

    /** Whether a FURROW of a KIND with a LINE and HAND 1 ANSWERS a plain one with LINE 43 of HAND 2. */
    private static void answer(int kind, int lc, long want) {
        FurrowTalk x = Given.furrows(0, 43, 2, 10 * kind, lc, 1);
        due("6 KIND " + kind + ", LINE " + lc, x.answers(1, 0), want);
    }

    private static void promise6() {
        int[] to = {45, 23, 43, 54, 34, 52, 25, 12, 61};
        String[] want = {"111000000", "101000000", "111110100", "111011101", "001000000", "000001011", "111000000"};
        for (int kind = 0; kind < 7; kind++) {
            for (int i = 0; i < to.length; i++) {
                answer(kind, to[i], want[kind].charAt(i) - '0');
            }
        }
        FurrowTalk x = Given.furrows(0, 43, 2, 60, 11, 2, 0, 11, 2);
        due("6 DEEP by its HAND", x.answers(1, 0), 1);
        due("6 a FURROW not by its HAND", x.answers(2, 0), 0);
        due("6 it is the KIND of the one that answers", x.answers(0, 1), 0);
        due("6 the one behind", x.answers(1, 2), 1);
        x.cover(1, 1);
        due("6 also if COVERED", x.answers(1, 0), 1);
        due("6 one and the same", x.answers(1, 1), BEYOND);
        due("6 furrow 3", x.answers(3, 0), BEYOND);
        due("6 to 3", x.answers(0, 3), BEYOND);
        due("6 furrow -1", x.answers(-1, 0), BEYOND);
        due("6 to -1", x.answers(0, -1), BEYOND);
    }

    private static void promise7() {
        FurrowTalk x = Given.furrows(0, 10, 0, 0, 11, 0);
        due("7 wasn't", x.cover(0, 1), 0);
        due("7 was", x.cover(0, 1), 1);
        due("7 COVERED", x.furrowIs(0, 6), 1);
        due("7 the other one isn't", x.furrowIs(1, 6), 0);
        due("7 uncovered", x.cover(0, 0), 1);
        due("7 SEEN", x.furrowIs(0, 6), 0);
        due("7 is 2", x.cover(0, 2), BEYOND);
        due("7 is -1", x.cover(0, -1), BEYOND);
        due("7 furrow 2", x.cover(2, 0), BEYOND);
        due("7 furrow -1", x.cover(-1, 0), BEYOND);
        due("7 AGE", x.years(5), 1);
        due("7 was covered by a YEAR", x.cover(1, 0), 1);
        due("7 AGE stays", x.furrowIs(1, 5), 5);
    }

    private static void promise8() {
        FurrowTalk x = Given.furrows(0, 125, 0, 0, 10, 0);
        due("8 was 125", x.redraw(0, 34), 125);
        due("8 LONG", x.furrowIs(0, 2), 3);
        due("8 CROOK", x.furrowIs(0, 3), 4);
        due("8 was 34", x.redraw(0, 10), 34);
        due("8 was 10", x.redraw(1, 120), 10);
        for (int lc : new int[] {9, 16, 130, 126, 0, 5, -10, -15, MIN, MAX}) {
            due("8 LINE " + lc, x.redraw(0, lc), BEYOND);
        }
        due("8 furrow 2", x.redraw(2, 10), BEYOND);
        due("8 furrow -1", x.redraw(-1, 10), BEYOND);
        due("8 stays", x.redraw(0, 11), 10);
    }

    private static void promise9() {
        FurrowTalk x = Given.furrows(0, 10, 0);
        due("9 was 5", x.patience(1), 5);
        due("9 was 1", x.patience(20), 1);
        due("9 v 0", x.patience(0), BEYOND);
        due("9 v 21", x.patience(21), BEYOND);
        due("9 v -1", x.patience(-1), BEYOND);
        due("9 count", x.count(3), 20);
        due("9 it takes 20 YEARS", x.years(19), 1);
        due("9 the 20th", x.years(1), 0);
    }

    private static void promise10() {
        FurrowTalk x = new FurrowTalk();
        due("10 three", x.feed(0x7FFF622B61L, 3), 3);
        due("10 the lowest first", x.text(0), 1);
        due("10 law", x.law(0, 3, 4, 0), 7);
        due("10 a word below 0", x.feed(-1L, 8), 8);
        due("10 more", x.feed(0, 1), 9);
        due("10 n 0", x.feed(0, 0), BEYOND);
        due("10 n 9", x.feed(0, 9), BEYOND);
        due("10 n -1", x.feed(0, -1), BEYOND);
        for (int i = 17; i <= 57; i += 8) {
            due("10 up to " + i, x.feed(0, 8), i);
        }
        due("10 61 would be", x.feed(0, 4), FULL);
        due("10 BEYOND ahead of FULL", x.feed(0, 9), BEYOND);
        due("10 60", x.feed(0, 3), 60);
        due("10 FULL", x.feed(0, 1), FULL);
        due("10 stays", x.count(4), 60);
        due("10 the first byte", x.text(0), -10);
        due("10 the highest byte", x.feed(0x3161616161616161L, 8), 8);
        due("10 the highest byte is a number", x.text(0), -11);
        x.feed(0x3130302B30302B31L, 8);
        due("10 eight bytes", x.text(0), 1);
        due("10 1+00+001", x.law(0, 0, 0, 0), 2);
    }

    private static void promise11() {
        FurrowTalk x = new FurrowTalk();
        Given.feed(x, "a+b");
        due("11 use 2", x.text(2), BEYOND);
        due("11 use -1", x.text(-1), BEYOND);
        due("11 THE TAPE stays", x.count(4), 3);
        due("11 good", x.text(0), 1);
        due("11 THE TAPE is empty", x.count(4), 0);
        due("11 law", x.law(0, 20, 30, 0), 50);
        due("11 the other USE has none", x.untell(1), 0);
        due("11 an empty TAPE", x.text(0), -10);
        due("11 the one ahead stays", x.law(0, 20, 30, 0), 50);
        due("11 in place of one ahead", Given.text(x, 0, "a*2"), 1);
        due("11 law anew", x.law(0, 20, 30, 0), 40);
        due("11 FAULT", Given.text(x, 0, "b*x"), -12);
        due("11 THE TAPE is empty, too", x.count(4), 0);
        due("11 it stays", x.law(0, 20, 30, 0), 40);
        due("11 FAULT is no ERROR", x.told(1), 2);
        String sixty = "1+1+1+1+1+1+1+1+1+1+1+1+1+1+1+1+1+1+1+1+1+1+1+1+1+1+1+1+1+11";
        due("11 sixty bytes", Given.text(x, 1, sixty), 1);
        due("11 their value", x.law(1, 0, 0, 0), 40);
        due("11 sixty, too early", Given.text(x, 1, sixty.substring(0, 59) + "+"), -70);
        due("11 nested", Given.text(x, 1, "((((l))))"), 1);
        due("11 short one in place of a long one", x.law(1, 7, 0, 0), 7);
    }

    private static void fault(String bytes, int use, int want) {
        FurrowTalk x = new FurrowTalk();
        due("11 FAULT of " + bytes, Given.text(x, use, bytes), want);
        due("11 TEXT of " + bytes, x.untell(use), want == 1 ? 1 : 0);
    }

    private static void promise11Faults() {
        fault("abk", 0, -11);
        fault("k", 0, 1);
        fault("l", 0, -10);
        fault("c", 0, -10);
        fault("d", 0, -10);
        fault("a", 1, -10);
        fault("b", 1, -10);
        fault("k", 1, -10);
        fault("l+c+d", 1, 1);
        fault("A", 0, -10);
        fault("1234", 0, 1);
        fault("0000", 0, 1);
        fault("12345", 0, -14);
        fault("12a", 0, -12);
        fault("a1", 0, -11);
        fault("a ", 0, -11);
        fault(" a", 0, -10);
        fault("a+", 0, -12);
        fault("a++b", 0, -12);
        fault("-a", 0, -10);
        fault("a--b", 0, -12);
        fault("a<b", 0, 1);
        fault("a<b<k", 0, -13);
        fault("a=b>k", 0, -13);
        fault("a<=b", 0, -12);
        fault("a<b&a>b", 0, 1);
        fault("a<b|a=b&b<a", 0, 1);
        fault("(a<b)<k", 0, 1);
        fault("a<(b<k)", 0, 1);
        fault("a<(b<k<a)", 0, -16);
        fault("(a<b)=a<b", 0, -17);
        fault("(a", 0, -12);
        fault("(a))", 0, -13);
        fault(")", 0, -10);
        fault("()", 0, -11);
        fault("(a]", 0, -12);
        fault("a!", 0, -11);
        fault("a(b)", 0, -11);
        fault("!", 0, -11);
        fault("!a", 0, 1);
        fault("a&&b", 0, -12);
        fault("a||b", 0, -12);
        fault("a*/b", 0, -12);
        fault("a%b", 0, 1);
        fault("a^b", 0, -11);
        fault("a\u00e1", 0, -11);
        fault("\u00ff", 0, -10);
        fault("1234+1234*1234", 0, 1);
    }

    private static void promise11Open() {
        fault("!!!!!a", 0, 1);
        fault("!!!!!!a", 0, -15);
        fault("(((((a)))))", 0, 1);
        fault("((((((a))))))", 0, -15);
        fault("!(!(!a))", 0, 1);
        fault("!(!(!(a)))", 0, -15);
        fault("((((!a+!b))))", 0, 1);
        fault("((((!!b))))", 0, -15);
        fault("!!!!!a+!!!!!b", 0, 1);
        fault("(((((a)))))+(((((b)))))", 0, 1);
        fault("!(((((a)))))", 0, -15);
        fault("!((((a))))+((((!b))))", 0, 1);
        fault("(((((", 0, -15);
        fault("((((((", 0, -15);
        fault("(((((!a)))))", 0, -15);
    }

    private static void promise12() {
        FurrowTalk x = new FurrowTalk();
        due("12 none", x.untell(0), 0);
        Given.text(x, 0, "7");
        Given.text(x, 1, "8");
        due("12 there was", x.untell(0), 1);
        due("12 not any more", x.untell(0), 0);
        due("12 without a TEXT", x.law(0, 1, 2, 3), 3);
        due("12 the other one stays", x.law(1, 1, 2, 3), 8);
        due("12 use 2", x.untell(2), BEYOND);
        due("12 use -1", x.untell(-1), BEYOND);
        due("12 the other one", x.untell(1), 1);
    }

    private static void promise13() {
        FurrowTalk x = new FurrowTalk();
        due("13 COST a+b", x.law(0, 3, 4, 50), 7);
        due("13 COST at least 1", x.law(0, 0, 0, 0), 1);
        due("13 COST not below", x.law(0, -5, 2, 0), 1);
        due("13 COST at most 99", x.law(0, 99, 1, 0), 99);
        due("13 COST wraps", x.law(0, MAX, 1, 0), 1);
        due("13 SENSE l*c", x.law(1, 7, 8, 50), 56);
        due("13 SENSE at most 99", x.law(1, 10, 10, 0), 99);
        due("13 SENSE at least -99", x.law(1, 10, -10, 0), -99);
        due("13 SENSE 0", x.law(1, 10, 0, 0), 0);
        due("13 SENSE wraps", x.law(1, 65536, 65536, 0), 0);
        due("13 SENSE wraps below", x.law(1, 65536, 32768, 0), -99);
        due("13 use 2", x.law(2, 1, 1, 1), BEYOND);
        due("13 use -1", x.law(-1, 1, 1, 1), BEYOND);
        Given.text(x, 0, "a*9+b*3+k");
        due("13 NAMES in order", x.law(0, 4, 5, 6), 57);
        Given.text(x, 1, "l*9+c*3-d");
        due("13 NAMES in order, too", x.law(1, 4, 5, 6), 45);
        Given.text(x, 0, "0-a");
        due("13 held at 1", x.law(0, 5, 0, 0), 1);
        Given.text(x, 0, "100");
        due("13 held at 99", x.law(0, 5, 0, 0), 99);
        Given.text(x, 1, "0-l");
        due("13 held at -99", x.law(1, 100, 0, 0), -99);
        due("13 -98", x.law(1, 98, 0, 0), -98);
        due("13 held at 99, too", x.law(1, -100, 0, 0), 99);
        due("13 98", x.law(1, -98, 0, 0), 98);
    }

    private static void value(String bytes, int want) {
        FurrowTalk x = new FurrowTalk();
        due("13 TEXT " + bytes, Given.text(x, 1, bytes), 1);
        due("13 value of " + bytes, x.law(1, 7, -3, 0), want);
    }

    private static void promise13Signs() {
        value("2+3*4", 14);
        value("(2+3)*4", 20);
        value("20-5-3", 12);
        value("20-(5-3)", 18);
        value("40/4/5", 2);
        value("40%7*3", 15);
        value("3*40%7", 1);
        value("c/2", -1);
        value("l/2", 3);
        value("(0-l)/2", -3);
        value("(0-l)%4", -3);
        value("l%c", 1);
        value("l/d", 0);
        value("l%d", 0);
        value("l/(0-2)", -3);
        value("1<2", 1);
        value("2<2", 0);
        value("2>2", 0);
        value("3>2", 1);
        value("2=2", 1);
        value("2=3", 0);
        value("c<d", 1);
        value("c>d", 0);
        value("5&c", 1);
        value("5&d", 0);
        value("d&5", 0);
        value("d|5", 1);
        value("d|d", 0);
        value("c|d", 1);
        value("!d", 1);
        value("!l", 0);
        value("!c", 0);
        value("!!l", 1);
        value("!d*5", 5);
        value("!l+5", 5);
        value("!d=1", 1);
        value("1|1&0", 1);
        value("(1|1)&0", 0);
        value("0&1|1", 1);
        value("2&1=1", 1);
        value("1+1=2", 1);
        value("1<2&3>2", 1);
        value("5-1<5", 1);
        value("0012", 12);
        value("1|2|0", 1);
        value("2&3&4", 1);
        value("d", 0);
        value("c", -3);
        value("l", 7);
    }

    private static void promise13Ints() {
        FurrowTalk x = new FurrowTalk();
        Given.text(x, 1, "l/c");
        due("13 MIN by -1", x.law(1, MIN, -1, 0), -99);
        Given.text(x, 1, "l%c");
        due("13 MIN % -1", x.law(1, MIN, -1, 0), 0);
        Given.text(x, 1, "l*c");
        due("13 * wraps", x.law(1, 65536, 65537, 0), 99);
        due("13 * wraps to 0", x.law(1, 65536, 65536, 0), 0);
        Given.text(x, 1, "l+c<0");
        due("13 + wraps", x.law(1, MAX, 1, 0), 1);
        Given.text(x, 1, "l-c>0");
        due("13 - wraps", x.law(1, MIN, 1, 0), 1);
        Given.text(x, 1, "l<c");
        due("13 < of MIN and MAX", x.law(1, MIN, MAX, 0), 1);
        Given.text(x, 0, "9999*9999/9999");
        due("13 numbers of 4 digits", x.law(0, 0, 0, 0), 99);
        Given.text(x, 0, "9999/102-a");
        due("13 their value", x.law(0, 1, 0, 0), 97);
        Given.text(x, 0, "k/b");
        due("13 by 0", x.law(0, 1, 0, 50), 1);
        due("13 not by 0", x.law(0, 1, 5, 50), 10);
    }

    private static void promise14() {
        FurrowTalk x = Given.furrows(0, 42, 0, 0, 45, 0, 0, 31, 0);
        due("14 one", x.years(1), 3);
        due("14 the HEARD one", x.furrowIs(0, 5), 0);
        due("14 the one not HEARD", x.furrowIs(1, 5), 1);
        due("14 the last one", x.furrowIs(2, 5), 1);
        due("14 YEAR", x.count(2), 1);
        due("14 just short of PATIENCE", x.years(3), 3);
        due("14 PATIENCE", x.years(1), 1);
        due("14 COVERED", x.furrowIs(1, 6), 1);
        due("14 SEEN still, HEARD as at the begin", x.furrowIs(0, 5), 0);
        due("14 not HEARD any more", x.years(1), 1);
        due("14 it ages then", x.furrowIs(0, 5), 1);
        due("14 a COVERED one doesn't age", x.furrowIs(1, 5), 5);
        due("14 n 0", x.years(0), BEYOND);
        due("14 n 61", x.years(61), BEYOND);
        due("14 n -1", x.years(-1), BEYOND);
        due("14 n MAX", x.years(MAX), BEYOND);
        due("14 YEAR stays", x.count(2), 6);
        for (int i = 0; i < 166; i++) {
            x.years(60);
        }
        due("14 YEAR 9966", x.count(2), 9966);
        due("14 above 9999", x.years(34), STATE);
        due("14 BEYOND ahead of STATE", x.years(61), BEYOND);
        due("14 up to 9999", x.years(33), 0);
        due("14 one above", x.years(1), STATE);
        due("14 YEAR 9999", x.count(2), 9999);
        due("14 no YEARS BY DRAWS either", x.loose(1), STATE);
    }

    private static void promise14Ages() {
        FurrowTalk x = Given.furrows(0, 10, 0, 0, 21, 0);
        x.patience(1);
        for (int i = 0; i < 98; i++) {
            x.cover(0, 0);
            x.years(1);
        }
        due("14 AGE 98", x.furrowIs(0, 5), 98);
        x.cover(0, 0);
        x.years(1);
        due("14 AGE 99", x.furrowIs(0, 5), 99);
        x.cover(0, 0);
        due("14 held, COVERED again", x.years(1), 0);
        due("14 AGE held at 99", x.furrowIs(0, 5), 99);
        FurrowTalk y = Given.furrows(0, 10, 0);
        y.years(4);
        y.patience(3);
        due("14 not COVERED by patience alone", y.count(1), 1);
        due("14 COVERED at more than PATIENCE", y.years(1), 0);
        due("14 AGE 5", y.furrowIs(0, 5), 5);
    }

    private static int draw(int[] z) {
        z[0] = Rules.drawn(z[0]);
        return Rules.given(z[0]);
    }

    private static void promise15() {
        for (int seed : new int[] {1, 77, -5, MIN, 123456789}) {
            FurrowTalk x = new FurrowTalk();
            x.seed(seed);
            x.patience(20);
            int[] z = {seed};
            for (int i = 0; i < 12; i++) {
                due("15 how many are SEEN", x.loose(1), i + 1);
                due("15 KIND", x.furrowIs(i, 0), draw(z) % 7);
                int line = draw(z) % 72;
                due("15 m", x.furrowIs(i, 1), 0);
                due("15 LONG", x.furrowIs(i, 2), 1 + line / 6);
                due("15 CROOK", x.furrowIs(i, 3), line % 6);
                due("15 HAND", x.furrowIs(i, 4), draw(z) % 6);
                due("15 the YEAR goes by behind it", x.furrowIs(i, 5), 1);
                due("15 YEAR", x.count(2), i + 1);
            }
            due("15 z", x.count(7), z[0]);
            due("15 no more than 12", x.loose(2), x.count(1));
            due("15 no draws then", x.count(7), z[0]);
            due("15 FURROWS", x.count(0), 12);
            due("15 YEAR goes on", x.count(2), 14);
        }
        FurrowTalk y = new FurrowTalk();
        due("15 n 0", y.loose(0), BEYOND);
        due("15 n 21", y.loose(21), BEYOND);
        due("15 n -1", y.loose(-1), BEYOND);
        due("15 z stays", y.count(7), 1);
        y.loose(20);
        due("15 20 YEARS", y.count(2), 20);
        for (int i = 0; i < 166; i++) {
            y.years(60);
        }
        due("15 above 9999", y.loose(20), STATE);
        due("15 BEYOND ahead of STATE", y.loose(21), BEYOND);
        due("15 up to 9999", y.loose(19), 0);
    }

    private static void promise16() {
        FurrowTalk x = new FurrowTalk();
        due("16 was 1", x.seed((int) BEYOND), 1);
        due("16 was any number", x.seed(MIN), BEYOND);
        due("16 that is no ERROR", x.told(1), 0);
        due("16 was MIN", x.seed(MAX), MIN);
        due("16 z", x.count(7), MAX);
    }

    private static void promise17() {
        FurrowTalk x = new FurrowTalk();
        for (int i = 0; i < 3; i++) {
            due("17 without FURROWS " + i, x.talk(i), 0);
        }
        x = Given.furrows(0, 10, 0, 0, 21, 0, 0, 22, 0, 0, 32, 0, 0, 43, 0, 0, 44, 0);
        due("17 TALK", x.talk(0), 3);
        due("17 ANSWERS", x.talk(1), 3);
        due("17 SEEN", x.talk(2), 6);
        x.cover(3, 1);
        due("17 TALK of two", x.talk(0), 2);
        due("17 fewer ANSWERS", x.talk(1), 2);
        due("17 fewer SEEN", x.talk(2), 5);
        x.redraw(4, 13);
        x.redraw(3, 29);
        x.cover(4, 1);
        x.redraw(5, 24);
        due("17 over the COVERED ones", x.talk(0), 3);
        for (int i = 1; i < 6; i++) {
            x.cover(i, 1);
        }
        due("17 one alone", x.talk(0), 1);
        due("17 it is no ANSWER", x.talk(1), 0);
        x.cover(0, 1);
        due("17 none is SEEN", x.talk(0), 0);
        due("17 what 3", x.talk(3), BEYOND);
        due("17 what -1", x.talk(-1), BEYOND);
    }

    private static void promise18() {
        FurrowTalk x = Given.furrows(0, 35, 0, 0, 34, 1, 0, 24, 2, 0, 12, 1, 0, 11, 1, 0, 51, 2);
        due("18 of all", x.meaning(-1), 12 + 8 + 1 + 5);
        due("18 of 1", x.meaning(1), 13);
        due("18 of 2", x.meaning(2), 13);
        due("18 the first one is no ANSWER", x.meaning(0), 0);
        due("18 of 3", x.meaning(3), 0);
        x.cover(2, 1);
        due("18 a COVERED one says nothing", x.meaning(2), 5);
        due("18 of all, too", x.meaning(-1), 12 + 1 + 5);
        Given.text(x, 1, "l*1000");
        due("18 each is held", x.meaning(-1), 297);
        Given.text(x, 1, "0-l*d-1");
        due("18 below 0", x.meaning(1), -2);
        due("18 hand -2", x.meaning(-2), BEYOND);
        due("18 hand 6", x.meaning(6), BEYOND);
        due("18 COVERED first", x.cover(0, 1), 0);
        due("18 the first SEEN one is no ANSWER", x.meaning(1), -1);
        due("18 without FURROWS", new FurrowTalk().meaning(5), 0);
        FurrowTalk y = Given.furrows(0, 10, 0, 0, 15, 5);
        due("18 hand 5", y.meaning(5), 5);
        due("18 hand 0", y.meaning(0), 0);
    }

    private static void promise19() {
        FurrowTalk w = Given.furrows(60, 10, 3, 60, 21, 3, 60, 32, 4);
        due("19 DEEP by its HAND", w.then(5, 1), 1);
        due("19 DEEP by its HAND, no more", w.then(10, 1), 0);
        FurrowTalk x = Given.furrows(0, 42, 0, 0, 45, 0, 0, 31, 0);
        due("19 now, how many", x.then(0, 0), 3);
        due("19 now, the set", x.then(0, 1), 7);
        due("19 4 on", x.then(4, 1), 7);
        due("19 5 on", x.then(5, 1), 1);
        due("19 5 on, how many", x.then(5, 0), 1);
        due("19 9 on", x.then(9, 1), 1);
        due("19 10 on", x.then(10, 1), 0);
        due("19 60 on", x.then(60, 0), 0);
        due("19 n 61", x.then(61, 0), BEYOND);
        due("19 n -1", x.then(-1, 0), BEYOND);
        due("19 what 2", x.then(1, 2), BEYOND);
        due("19 what -1", x.then(1, -1), BEYOND);
        due("19 only thought: YEAR", x.count(2), 0);
        due("19 only thought: AGE", x.furrowIs(1, 5), 0);
        due("19 only thought: COVERED", x.count(1), 3);
        for (int i = 0; i < 166; i++) {
            x.years(60);
        }
        x.years(39);
        x.cover(1, 0);
        due("19 YEAR beyond 9999", x.then(1, 1), 0);
        due("19 YEAR beyond 9999, now", x.then(0, 1), 2);
        due("19 YEAR stays", x.count(2), 9999);
    }

    private static void promise20() {
        FurrowTalk x = new FurrowTalk();
        due("20 none", x.fewest(0), 0);
        due("20 none, the set", x.fewest(1), 0);
        x = Given.furrows(0, 10, 0, 0, 10, 0, 0, 10, 0);
        due("20 all answer", x.fewest(0), 0);
        due("20 all answer, the set", x.fewest(1), 0);
        x.redraw(1, 21);
        due("20 one between", x.fewest(0), 1);
        due("20 the one between", x.fewest(1), 2);
        x.redraw(2, 32);
        due("20 only one stays", x.fewest(0), 2);
        due("20 the least set", x.fewest(1), 3);
        x.cover(1, 1);
        due("20 besides", x.fewest(0), 1);
        due("20 a COVERED one need not be in it", x.fewest(1), 1);
        FurrowTalk y = Given.furrows(0, 10, 0, 0, 21, 0, 0, 11, 0, 0, 12, 0, 0, 55, 0);
        due("20 of several", y.fewest(0), 2);
        due("20 of several, the set", y.fewest(1), 17);
        FurrowTalk z = Given.furrows(40, 11, 0, 40, 22, 0, 40, 11, 0, 40, 22, 0, 40, 33, 0, 40, 33, 0);
        due("20 three pairs", z.fewest(0), 4);
        due("20 the least of three", z.fewest(1), 15);
        due("20 what 2", z.fewest(2), BEYOND);
        due("20 what -1", z.fewest(-1), BEYOND);
        due("20 only thought", z.count(1), 6);
    }

    private static void promise21() {
        FurrowTalk x = Given.furrows(0, 125, 0, 0, 34, 0);
        due("21 as it is", x.reply(34, 0), 0);
        due("21 as it is, the LINE", x.reply(34, 1), -1);
        due("21 LONG alone", x.reply(64, 0), 3);
        due("21 LONG alone, the least", x.reply(64, 1), 44);
        due("21 down", x.reply(14, 1), 14);
        due("21 CROOK alone", x.reply(31, 0), 3);
        due("21 CROOK alone, the least", x.reply(31, 1), 31);
        due("21 CROOK up", x.reply(35, 1), 35);
        due("21 both", x.reply(120, 0), 13);
        due("21 both, the least", x.reply(120, 1), 30);
        due("21 both, up", x.reply(125, 1), 35);
        due("21 both, LONG down", x.reply(25, 1), 24);
        x.cover(1, 1);
        due("21 from the last SEEN one", x.reply(125, 0), 0);
        due("21 from the last SEEN one, the LINE", x.reply(120, 1), 120);
        for (int lc : new int[] {9, 16, 130, -10, MIN, MAX}) {
            due("21 LINE " + lc, x.reply(lc, 0), BEYOND);
        }
        due("21 what 2", x.reply(10, 2), BEYOND);
        due("21 what -1", x.reply(10, -1), BEYOND);
        x.cover(0, 1);
        due("21 none is SEEN", x.reply(10, 0), STATE);
        due("21 none is SEEN, the LINE", x.reply(10, 1), STATE);
        due("21 BEYOND ahead of STATE", x.reply(9, 0), BEYOND);
        due("21 BEYOND of what ahead of STATE", x.reply(10, 2), BEYOND);
        due("21 no FURROWS", new FurrowTalk().reply(10, 0), STATE);
    }

    private static void promise21Texts() {
        FurrowTalk x = Given.furrows(0, 60, 0);
        Given.text(x, 0, "1+(a=1)*50");
        due("21 rather two steps", x.reply(70, 0), 2);
        due("21 the least of several ways", x.reply(70, 1), 10);
        Given.text(x, 0, "1+(a=1)*50+(a>2)*50+b");
        due("21 one step by 2", x.reply(80, 0), 1);
        due("21 2 and 2", x.reply(100, 1), 80);
        Given.text(x, 0, "k");
        due("21 PATIENCE is k", x.reply(70, 0), 5);
        due("21 each step costs k", x.reply(71, 0), 10);
        x.patience(7);
        due("21 PATIENCE 7", x.reply(71, 0), 14);
        Given.text(x, 0, "b*3+a*(a>1)");
        due("21 a cost of 0 is 1", x.reply(90, 0), 3);
        due("21 a cost of 0 is 1, the LINE", x.reply(90, 1), 70);
        due("21 steps of CROOK", x.reply(62, 0), 6);
        due("21 steps of CROOK, the least", x.reply(62, 1), 61);
        Given.text(x, 0, "(a+b)*90");
        due("21 held at 99", x.reply(125, 0), 198);
        due("21 held at 99: LONG or CROOK first", x.reply(125, 1), 65);
        due("21 held at 99: any step is so", x.reply(15, 1), 10);
        Given.text(x, 0, "(b=1)*40+(b>1)*3+1");
        due("21 over the end of the row", x.reply(61, 0), 8);
        due("21 over a CROOK", x.reply(61, 1), 63);
    }

    private static void odds(FurrowTalk x, int km, int hand, int above, int below) {
        due("22 above, " + km, x.odds(km, hand, 0), above);
        due("22 below, " + km, x.odds(km, hand, 1), below);
    }

    private static void promise22() {
        FurrowTalk x = Given.furrows(0, 10, 3, 0, 42, 5);
        odds(x, 0, 5, 17, 72);
        odds(x, 19, 0, 1, 12);
        odds(x, 20, 0, 2, 3);
        odds(x, 30, 0, 11, 36);
        odds(x, 40, 0, 1, 72);
        odds(x, 50, 0, 1, 3);
        odds(x, 60, 4, 17, 72);
        odds(x, 60, 5, 1, 1);
        x.redraw(1, 10);
        odds(x, 50, 0, 0, 1);
        odds(x, 20, 0, 1, 1);
        odds(x, 30, 0, 17, 72);
        x.cover(1, 1);
        x.redraw(0, 125);
        odds(x, 60, 3, 1, 1);
        odds(x, 60, 5, 17, 72);
        odds(x, 50, 5, 5, 6);
        for (int km : new int[] {-1, 70}) {
            due("22 km", x.odds(km, 0, 0), BEYOND);
        }
        due("22 hand 6", x.odds(0, 6, 0), BEYOND);
        due("22 hand -1", x.odds(0, -1, 0), BEYOND);
        due("22 part 2", x.odds(0, 0, 2), BEYOND);
        due("22 part -1", x.odds(0, 0, -1), BEYOND);
        x.cover(0, 1);
        due("22 none is SEEN", x.odds(0, 0, 0), STATE);
        due("22 BEYOND ahead of STATE", x.odds(70, 0, 0), BEYOND);
        FurrowTalk y = Given.twelve();
        due("22 12 FURROWS", y.odds(0, 0, 0), STATE);
        due("22 12 FURROWS, below", y.odds(0, 0, 1), STATE);
        due("22 BEYOND ahead of STATE of 12", y.odds(0, 0, 2), BEYOND);
    }

    private static void promise23() {
        FurrowTalk x = Given.furrows(0, 42, 0, 0, 45, 0, 0, 31, 0);
        Given.row(x, 0, 8, 4, 4, 3);
        due("23 so it is", x.fits(0), 0);
        Given.row(x, 1, 16, 4);
        due("23 behind 5", x.fits(1), 5);
        Given.row(x, 2, 32);
        due("23 behind 10", x.fits(2), 10);
        Given.row(x, 3, 32, 4, 4);
        due("23 never two", x.fits(3), NONE);
        Given.row(x, 3, 32, 3);
        due("23 never the last alone", x.fits(3), NONE);
        Given.row(x, 3, 32, 4, 4, 3, 0);
        due("23 too many", x.fits(3), NONE);
        Given.row(x, 3, 32, 3, 4, 4);
        due("23 in order", x.fits(3), NONE);
        x.patience(20);
        due("23 behind 40", x.fits(2), 40);
        FurrowTalk y = Given.furrows(0, 10, 0, 0, 10, 0, 0, 10, 0, 0, 10, 0);
        y.patience(20);
        Given.row(y, 0, 8, 1);
        due("23 by 60", y.fits(0), 60);
        Given.row(y, 0, 8);
        due("23 not by 60", y.fits(0), NONE);
        due("23 only thought", y.count(2), 0);
        due("23 missing", y.fits(1), NONE);
        due("23 sheet 4", y.fits(4), BEYOND);
        due("23 sheet -1", y.fits(-1), BEYOND);
        y.sheet(2, 8, 0);
        due("23 no FURROWS", Given.furrows().fits(0), NONE);
        FurrowTalk z = new FurrowTalk();
        z.sheet(2, 8, 0);
        due("23 no FURROWS, no numbers", z.fits(2), 0);
        y.cover(0, 1);
        Given.row(y, 0, 8, 1, 1, 1);
        due("23 COVERED ones don't matter", y.fits(0), 0);
    }

    private static void voice(FurrowTalk x, int furrow, int voice, int number, long want, int... bodies) {
        due("24 voice(" + furrow + ", " + voice + ", " + number + ")", x.voice(furrow, voice, number), want);
        due("24 bodies of " + furrow + ", " + voice, x.count(6), bodies.length);
        for (int i = 0; i < bodies.length; i++) {
            due("25 body " + i + " of " + furrow + ", " + voice, x.body(i), bodies[i]);
        }
    }

    private static void promise24() {
        FurrowTalk x = Given.furrows(5, 10, 0, 15, 10, 0, 25, 10, 0, 35, 10, 0, 46, 10, 0, 56, 10, 0, 68, 10, 0);
        voice(x, 0, 0, 7, 7, 10);
        voice(x, 0, 1, 7, 14, 11, 10);
        voice(x, 0, 2, 7, 9, 12, 11, 10);
        voice(x, 1, 0, 7, 4, 20, 10);
        voice(x, 1, 1, 7, 8, 11, 20, 10);
        voice(x, 1, 2, 7, 3, 12, 11, 20, 10);
        voice(x, 2, 0, 7, 9, 10);
        voice(x, 2, 1, 7, -18, 30, 11, 10);
        voice(x, 2, 2, 7, -23, 12, 30, 11, 10);
        voice(x, 3, 0, 7, 10, 10);
        voice(x, 3, 1, 7, 20, 11, 10);
        voice(x, 3, 2, 7, 7, 40, 12, 11, 10);
        voice(x, 3, 2, -7, -5, 40, 12, 11, 10);
        voice(x, 4, 0, 7, 21, 50, 20, 10);
        voice(x, 4, 1, 7, 42, 11, 50, 20, 10);
        voice(x, 4, 2, 7, 36 ^ 4, 51, 12, 11, 50, 20, 10);
        voice(x, 5, 0, 7, 12, 10);
        voice(x, 5, 1, 7, -26, 60, 30, 11, 10);
        voice(x, 5, 2, 7, -32, 12, 60, 30, 11, 10);
        voice(x, 6, 0, 7, 9, 70);
        voice(x, 6, 1, 7, 26, 71, 11, 70);
        voice(x, 6, 2, 7, 18, 12, 71, 11, 70);
        voice(x, 0, 1, MAX, -2, 11, 10);
        voice(x, 2, 0, MAX, MIN + 1L, 10);
        voice(x, 2, 0, (int) BEYOND - 2, BEYOND, 10);
        due("24 that is no ERROR", x.told(1), 0);
        due("24 furrow 7", x.voice(7, 0, 0), BEYOND);
        due("24 furrow -1", x.voice(-1, 0, 0), BEYOND);
        due("24 voice 4", x.voice(0, 4, 0), BEYOND);
        due("24 voice -1", x.voice(0, -1, 0), BEYOND);
    }

    private static void promise24Parts() {
        FurrowTalk x = Given.furrows(5, 10, 0, 15, 10, 0, 25, 10, 0, 35, 10, 0, 46, 10, 0, 56, 10, 0, 68, 10, 0);
        voice(x, 0, 3, 17, 3, 13);
        voice(x, 1, 3, 17, 4 + (1 + 1 - 4) * 2, 21, 13, 11, 20, 10);
        voice(x, 2, 3, -17, -5, 13);
        voice(x, 3, 3, 17, 8, 13);
        voice(x, 4, 3, 17, 8 + (1 + 4 - 4) * 3 * 2, 21, 13, 11, 50, 20, 10);
        voice(x, 5, 3, 17, 17, 13);
        voice(x, 6, 3, 17, 8, 13);
        x.become(6, 65);
        voice(x, 6, 3, MIN, MIN, 13);
        voice(x, 6, 3, 17, -17, 13);
        x.become(6, 66);
        voice(x, 6, 3, 17, PARTED, 13);
        voice(x, 6, 3, 0, PARTED, 13);
        due("24 told", x.told(6), 2);
        due("24 the other voices are not PARTED", x.voice(6, 1, 7), 24);
        x.become(1, 11);
        x.become(4, 44);
        voice(x, 1, 3, 17, PARTED, 21, 13);
        voice(x, 0, 2, 7, 9, 12, 11, 10);
        voice(x, 4, 3, 17, PARTED, 21, 13);
        voice(x, 4, 0, 7, 21, 50, 20, 10);
    }

    private static void promise25() {
        FurrowTalk x = Given.furrows(40, 10, 0);
        due("25 at first", x.body(0), NONE);
        x.voice(0, 2, 1);
        int[] trace = {51, 12, 11, 50, 20, 10};
        for (int i = 0; i < trace.length; i++) {
            due("25 body(" + i + ")", x.body(i), trace[i]);
        }
        due("25 behind the last", x.body(6), NONE);
        due("25 body(-1)", x.body(-1), NONE);
        due("25 body(30)", x.body(30), NONE);
        due("25 body(MAX)", x.body(MAX), NONE);
        due("25 body(MIN)", x.body(MIN), NONE);
        x.voice(0, 0, 1);
        due("25 the latest one", x.body(0), 50);
        due("25 nothing of the one ahead", x.body(3), NONE);
        promise25OfErrors();
    }

    /** One that is PARTED has begun BODIES; one that is BEYOND hasn't, and changes nothing. */
    private static void promise25OfErrors() {
        FurrowTalk x = Given.furrows(10, 10, 0);
        due("25 PARTED at first", x.voice(0, 3, 5), PARTED);
        due("25 of PARTED, 0", x.body(0), 21);
        due("25 of PARTED, 1", x.body(1), 13);
        due("25 of PARTED, 2", x.body(2), NONE);
        x.image();
        x.voice(0, 0, 1);
        due("25 BEYOND", x.voice(1, 0, 0), BEYOND);
        due("25 BEYOND of the voice", x.voice(0, 4, 0), BEYOND);
        due("25 it stays behind BEYOND", x.count(6), 2);
        due("25 behind BEYOND, 0", x.body(0), 20);
        due("25 behind BEYOND, 1", x.body(1), 10);
        x.voice(0, 3, 5);
        due("25 PARTED, in place of a longer one", x.body(0), 21);
        x.restore();
        due("25 no IMAGE holds it", x.body(1), 13);
    }

    private static void promise26() {
        FurrowTalk x = Given.furrows(0, 10, 0);
        due("26 of 24", x.sheet(3, 8, 24), 1);
        due("26 the last number", x.put(3, 23, 1), 1);
        due("26 no more", x.put(3, 24, 1), BEYOND);
        due("26 of 0", x.sheet(3, 16, 0), 1);
        due("26 no number", x.put(3, 0, 1), BEYOND);
        due("26 missing", x.sheet(3, 0, -5), 1);
        due("26 it is missing", x.put(3, 0, 1), NONE);
        due("26 missing, n of 99", x.sheet(3, 0, 99), 1);
        Given.row(x, 1, 32, 5);
        x.sheet(1, 32, 1);
        due("26 all 0", x.judge(1), 1);
        due("26 below 0", x.sheet(1, 8, -1), STATE);
        due("26 MIN", x.sheet(1, 8, MIN), STATE);
        due("26 25", x.sheet(1, 8, 25), BEYOND);
        for (int bits : new int[] {-8, 1, 7, 9, 24, 64, MIN, MAX}) {
            due("26 bits " + bits, x.sheet(1, bits, 1), BEYOND);
        }
        due("26 BEYOND of bits ahead of STATE", x.sheet(1, 7, -1), BEYOND);
        due("26 sheet 4", x.sheet(4, 8, 1), BEYOND);
        due("26 sheet -1", x.sheet(-1, 8, 1), BEYOND);
        due("26 sheet 4 ahead of STATE", x.sheet(4, 8, -1), BEYOND);
        due("26 sheet 4, missing", x.sheet(4, 0, 1), BEYOND);
        due("26 it stays", x.judge(1), 1);
        due("26 others stay missing", x.judge(0), NONE);
    }

    private static void promise27() {
        FurrowTalk x = Given.furrows(0, 10, 0, 0, 11, 0);
        Given.text(x, 1, "d");
        Given.row(x, 0, 8, 256, 300);
        due("27 the lowest 8 bits", x.judge(0), 1);
        Given.row(x, 0, 16, 65536, 256);
        due("27 the lowest 16 bits", x.judge(0), 1);
        Given.row(x, 0, 32, 65536);
        due("27 32 bits", x.judge(0), 0);
        Given.row(x, 0, 32, 0, 256);
        due("27 32 bits, 256", x.judge(0), 1);
        Given.text(x, 1, "d-99");
        Given.row(x, 0, 8, 157);
        due("27 the highest of 8 bits is a sign", x.judge(0), 1);
        Given.row(x, 0, 16, 65437);
        due("27 the highest of 16 bits is a sign", x.judge(0), 1);
        Given.row(x, 0, 32, -99);
        due("27 32 bits below 0", x.judge(0), 1);
        due("27 sheet 4", x.put(4, 0, 0), BEYOND);
        due("27 sheet -1", x.put(-1, 0, 0), BEYOND);
        due("27 missing", x.put(1, 0, 0), NONE);
        due("27 missing ahead of the number", x.put(1, -1, 0), NONE);
        due("27 number 1", x.put(0, 1, 0), BEYOND);
        due("27 number -1", x.put(0, -1, 0), BEYOND);
        due("27 number MAX", x.put(0, MAX, 0), BEYOND);
        due("27 it stays", x.judge(0), 1);
    }

    /** The LINES that a SHEET gives, one behind the other. */
    private static void rowIs(String what, FurrowTalk x, int sheet, int... lc) {
        due(what, x.lines(sheet), lc.length);
        for (int i = 0; i < lc.length; i++) {
            due(what + ", number " + i, 10 * x.furrowIs(i, 2) + x.furrowIs(i, 3), lc[i]);
        }
    }

    private static void promise28() {
        FurrowTalk x = Given.furrows(0, 10, 0, 0, 10, 0, 0, 10, 0, 0, 10, 0);
        Given.row(x, 0, 8, 11, 12, 13, 14);
        Given.row(x, 1, 8, 21, 22, 23, 24);
        due("28 two", x.move(0, 1, 1, 2, 2), 2);
        rowIs("28 to another", x, 1, 21, 22, 12, 13);
        rowIs("28 it stays", x, 0, 11, 12, 13, 14);
        due("28 on itself, up", x.move(0, 0, 0, 1, 3), 3);
        rowIs("28 as they all were, up", x, 0, 11, 11, 12, 13);
        due("28 on itself, down", x.move(0, 1, 0, 0, 3), 3);
        rowIs("28 as they all were, down", x, 0, 11, 12, 13, 13);
        due("28 all", x.move(1, 0, 0, 0, 4), 4);
        rowIs("28 all", x, 0, 21, 22, 12, 13);
        due("28 none", x.move(1, 4, 0, 4, 0), 0);
        int[][] bad = {{-1, 0, 1}, {0, -1, 1}, {0, 0, -1}, {0, 0, 5}, {1, 0, 4}, {0, 1, 4}, {4, 0, 1}, {0, 4, 1},
            {MAX, 0, 2}, {0, MAX, 2}, {0, 0, MAX}, {2, 2, MAX}, {MIN, 0, 1}, {0, 0, MIN}, {5, 0, 0}, {0, 5, 0}};
        for (int[] b : bad) {
            due("28 bad " + b[0] + " " + b[1] + " " + b[2], x.move(1, b[0], 0, b[1], b[2]), BEYOND);
        }
        rowIs("28 nothing changed", x, 0, 21, 22, 12, 13);
        due("28 sheet 4", x.move(4, 0, 0, 0, 1), BEYOND);
        due("28 sheet -1", x.move(-1, 0, 0, 0, 1), BEYOND);
        due("28 other 4", x.move(0, 0, 4, 0, 1), BEYOND);
        due("28 other -1", x.move(0, 0, -1, 0, 1), BEYOND);
        due("28 missing", x.move(2, 0, 0, 0, 1), NONE);
        due("28 other missing", x.move(0, 0, 2, 0, 1), NONE);
        due("28 BEYOND ahead of NONE", x.move(2, 0, 4, 0, 1), BEYOND);
        due("28 NONE ahead of BEYOND", x.move(2, -1, 0, 0, 1), NONE);
        Given.row(x, 2, 16, 1, 2, 3, 4);
        due("28 unlike bits", x.move(0, 0, 2, 0, 1), KIND);
        due("28 KIND ahead of BEYOND", x.move(0, -1, 2, 0, 1), KIND);
        due("28 KIND, none", x.move(0, 0, 2, 0, 0), KIND);
        Given.row(x, 3, 32, 1, 2);
        due("28 unlike bits, too", x.move(3, 0, 2, 0, 1), KIND);
        due("28 a shorter one", x.move(0, 0, 0, 3, 2), BEYOND);
    }

    private static void promise29() {
        FurrowTalk x = Given.furrows(11, 10, 1, 0, 10, 0, 0, 10, 0);
        Given.row(x, 0, 16, 125, 34, 99, 11);
        due("29 up to the first that is no LINE", x.lines(0), 2);
        due("29 the first", x.furrowIs(0, 2), 12);
        due("29 the second", x.furrowIs(1, 3), 4);
        due("29 the third stays", x.furrowIs(2, 2), 1);
        due("29 no ERROR", x.told(1), 0);
        due("29 KIND stays", x.furrowIs(0, 0), 1);
        Given.row(x, 0, 32, 11, 12, 13, 14);
        due("29 no more FURROWS", x.lines(0), 3);
        for (int bad : new int[] {0, 9, 16, 126, 130, -11, MIN, MAX}) {
            Given.row(x, 1, 32, bad);
            due("29 no LINE " + bad, x.lines(1), 0);
        }
        due("29 it stays", x.furrowIs(0, 3), 1);
        x.cover(0, 1);
        Given.row(x, 1, 8, 55);
        due("29 COVERED ones, too", x.lines(1), 1);
        due("29 COVERED one's LINE", x.furrowIs(0, 2), 5);
        Given.row(x, 1, 8);
        due("29 no numbers", x.lines(1), 0);
        due("29 missing", x.lines(2), NONE);
        due("29 sheet 4", x.lines(4), BEYOND);
        due("29 sheet -1", x.lines(-1), BEYOND);
        FurrowTalk y = new FurrowTalk();
        Given.row(y, 0, 8, 11);
        due("29 no FURROWS", y.lines(0), 0);
    }

    private static void promise30() {
        FurrowTalk x = Given.furrows(0, 34, 0, 0, 55, 0, 0, 20, 0);
        Given.row(x, 0, 8, 12, 25, 0, 0);
        due("30 all", x.judge(0), 3);
        Given.row(x, 0, 8, 12, 24, 0);
        due("30 from the first on", x.judge(0), 1);
        Given.row(x, 0, 8, 11, 25, 0);
        due("30 none", x.judge(0), 0);
        Given.row(x, 0, 8, 12, 25);
        due("30 fewer numbers", x.judge(0), 2);
        x.cover(1, 1);
        due("30 COVERED ones, too", x.judge(0), 2);
        Given.text(x, 1, "l+c");
        Given.row(x, 1, 16, 7, 10, 2);
        due("30 by the TEXT", x.judge(1), 3);
        Given.row(x, 1, 16);
        due("30 no numbers", x.judge(1), 0);
        due("30 missing", x.judge(2), NONE);
        due("30 sheet 4", x.judge(4), BEYOND);
        due("30 sheet -1", x.judge(-1), BEYOND);
    }

    private static void promise31() {
        FurrowTalk x = Given.furrows(12, 34, 5);
        due("31 once", x.image(), 1);
        x.plough(0, 10, 0);
        due("31 twice", x.image(), 2);
        x.plough(0, 10, 0);
        x.restore();
        due("31 the later one", x.count(0), 2);
        due("31 how often is not kept", x.image(), 3);
        x.become(0, 69);
        x.restore();
        due("31 it does not change with what is", x.furrowIs(0, 0), 1);
    }

    private static void promise32() {
        FurrowTalk x = Given.furrows(12, 34, 5, 0, 55, 0);
        due("32 none", x.restore(), NONE);
        x.years(3);
        x.cover(1, 1);
        x.patience(7);
        x.seed(99);
        Given.text(x, 0, "a*5");
        Given.text(x, 1, "l*5");
        Given.feed(x, "12");
        x.tell(3);
        x.tell(8);
        Given.row(x, 0, 8, 1);
        x.voice(0, 0, 0);
        x.image();
        x.years(2);
        x.cover(1, 0);
        x.become(0, 55);
        x.redraw(0, 10);
        x.plough(0, 10, 0);
        x.patience(1);
        x.seed(5);
        Given.text(x, 0, "b");
        x.untell(1);
        Given.feed(x, "345");
        x.check();
        x.tell(7);
        x.sheet(0, 16, 2);
        x.voice(0, 1, 0);
        x.told(9);
        restored(x);
        x.untell(0);
        x.check();
        x.cover(0, 1);
        x.feed(0, 8);
        due("32 which stays", x.restore(), 3);
        due("32 its TEXT", x.law(0, 4, 0, 0), 20);
        due("32 check", x.check(), 2);
        due("32 THE TAPE, twice", x.text(1), 1);
        due("32 its bytes, twice", x.law(1, 1, 1, 1), 12);
        due("32 SEEN, twice", x.then(0, 1), 1);
    }

    private static void restored(FurrowTalk x) {
        due("32 YEAR", x.restore(), 3);
        due("32 count YEAR", x.count(2), 3);
        due("32 FURROWS", x.count(0), 2);
        long[] is = {1, 2, 3, 4, 5, 3, 0};
        for (int i = 0; i < is.length; i++) {
            due("32 furrowIs(0, " + i + ")", x.furrowIs(0, i), is[i]);
        }
        due("32 COVERED", x.furrowIs(1, 6), 1);
        due("32 PATIENCE", x.count(3), 7);
        due("32 z", x.count(7), 99);
        due("32 TEXT of 0", x.law(0, 4, 0, 0), 20);
        due("32 TEXT of 1", x.law(1, 4, 0, 0), 20);
        due("32 bytes", x.count(4), 2);
        due("32 numbers that wait", x.count(5), 2);
        due("32 check", x.check(), 2);
        due("32 SHEETS don't go back", x.put(0, 1, 0), 1);
        due("32 THE TRACE doesn't go back", x.count(6), 4);
        due("32 told doesn't go back", x.told(1), 1);
        due("32 THE TAPE", x.text(1), 1);
        due("32 its bytes", x.law(1, 1, 1, 1), 12);
    }

    private static void promise33() {
        FurrowTalk x = new FurrowTalk();
        for (int i = 1; i <= 24; i++) {
            due("33 tell " + i, x.tell(i % 2 == 0 ? MIN : MAX), i);
        }
        due("33 FULL", x.tell(0), FULL);
        due("33 24 wait", x.count(5), 24);
        x.check();
        due("33 anew", x.tell(0), 1);
    }

    private static void promise34() {
        FurrowTalk x = Given.furrows(0, 10, 0, 0, 21, 0);
        due("34 none wait", x.check(), 0);
        x.years(2);
        x.tell(2);
        x.tell(2);
        due("34 right", x.check(), 0);
        due("34 none do then", x.count(5), 0);
        x.tell(2);
        x.tell(1);
        due("34 the second isn't so", x.check(), 2);
        due("34 none do then, either", x.count(5), 0);
        x.tell(3);
        x.tell(1);
        due("34 the first of two", x.check(), 1);
        x.tell(2);
        x.tell(2);
        x.tell(0);
        due("34 no such FURROW", x.check(), 3);
        x.tell(2);
        due("34 fewer", x.check(), 0);
        FurrowTalk y = Given.twelve();
        for (int i = 0; i < 13; i++) {
            y.tell(0);
        }
        due("34 no 13th FURROW", y.check(), 13);
        x.cover(0, 1);
        x.years(1);
        x.tell(2);
        x.tell(3);
        due("34 COVERED ones, too", x.check(), 0);
    }

    private static void promise35() {
        FurrowTalk x = Given.furrows(10, 10, 0, 0, 21, 0, 0, 32, 0);
        x.cover(0, 1);
        x.years(4);
        x.patience(9);
        x.feed(0, 6);
        for (int i = 0; i < 7; i++) {
            x.tell(i);
        }
        x.voice(0, 1, 1);
        x.seed((int) STATE);
        long[] is = {3, 2, 4, 9, 6, 7, 3, STATE};
        for (int i = 0; i < is.length; i++) {
            due("35 count(" + i + ")", x.count(i), is[i]);
        }
        due("35 z is no ERROR", x.told(3), 0);
        due("35 count(8)", x.count(8), BEYOND);
        due("35 count(-1)", x.count(-1), BEYOND);
        due("35 count(MIN)", x.count(MIN), BEYOND);
    }

    private static void promise36() {
        FurrowTalk x = Given.furrows(0, 10, 0);
        x.plough(70, 0, 0);
        x.cover(1, 0);
        x.body(0);
        x.restore();
        x.lines(0);
        x.sheet(0, 8, -1);
        x.as(0, 1);
        x.voice(0, 3, 1);
        x.voice(0, 3, 2);
        for (int i = 0; i < 24; i++) {
            x.tell(i);
        }
        for (int i = 0; i < 4; i++) {
            x.tell(i);
        }
        long[] is = {2, 3, 1, 4, 1, 2};
        for (int k = 1; k <= 6; k++) {
            due("36 told(" + k + ")", x.told(k), is[k - 1]);
        }
        due("36 told(0)", x.told(0), BEYOND);
        due("36 told(7)", x.told(7), BEYOND);
        due("36 told(-1)", x.told(-1), BEYOND);
        due("36 told(MAX)", x.told(MAX), BEYOND);
        due("36 told(MIN)", x.told(MIN), BEYOND);
        due("36 counted, too", x.told(1), 7);
        due("36 it asks for nothing else", x.told(1), 7);
        due("36 each by itself", x.told(2), 3);
    }

    /** That an answer is an ERROR that is due, and that just this ERROR is counted once more. */
    private static void counted(FurrowTalk x, String what, IntSupplier call, long error) {
        int[] before = new int[7];
        for (int k = 1; k <= 6; k++) {
            before[k] = x.told(k);
        }
        due("36 " + what, call.getAsInt(), error);
        for (int k = 1; k <= 6; k++) {
            due("36 " + what + ", told(" + k + ")", x.told(k), before[k] + (Checks.LOW - error == k ? 1 : 0));
        }
    }

    private static void promise36Furrows() {
        FurrowTalk x = Given.twelve();
        counted(x, "plough", () -> x.plough(0, 10, 9), BEYOND);
        counted(x, "plough of 12", () -> x.plough(0, 10, 0), FULL);
        counted(x, "furrowIs", () -> x.furrowIs(12, 0), BEYOND);
        counted(x, "furrowIs what", () -> x.furrowIs(0, 10), BEYOND);
        counted(x, "become", () -> x.become(0, 70), BEYOND);
        counted(x, "as", () -> x.as(0, 7), BEYOND);
        counted(x, "as of another KIND", () -> x.as(0, 1), KIND);
        counted(x, "answers", () -> x.answers(0, 0), BEYOND);
        counted(x, "cover", () -> x.cover(0, 2), BEYOND);
        counted(x, "redraw", () -> x.redraw(0, 0), BEYOND);
        counted(x, "patience", () -> x.patience(0), BEYOND);
        counted(x, "talk", () -> x.talk(3), BEYOND);
        counted(x, "meaning", () -> x.meaning(6), BEYOND);
        counted(x, "then", () -> x.then(61, 0), BEYOND);
        counted(x, "fewest", () -> x.fewest(2), BEYOND);
        counted(x, "reply", () -> x.reply(0, 0), BEYOND);
        counted(x, "odds", () -> x.odds(0, 0, 2), BEYOND);
        counted(x, "odds of 12", () -> x.odds(0, 0, 0), STATE);
        counted(x, "voice", () -> x.voice(0, 4, 0), BEYOND);
        counted(x, "voice PARTED", () -> x.voice(0, 3, 0), PARTED);
        counted(x, "body", () -> x.body(1), NONE);
        x.years(60);
        counted(x, "reply to none", () -> x.reply(10, 0), STATE);
        counted(x, "count", () -> x.count(8), BEYOND);
    }

    private static void promise36Texts() {
        FurrowTalk x = new FurrowTalk();
        counted(x, "feed", () -> x.feed(0, 9), BEYOND);
        for (int i = 0; i < 7; i++) {
            x.feed(0, 8);
        }
        counted(x, "feed of 61", () -> x.feed(0, 5), FULL);
        counted(x, "text", () -> x.text(2), BEYOND);
        counted(x, "untell", () -> x.untell(2), BEYOND);
        counted(x, "law", () -> x.law(2, 0, 0, 0), BEYOND);
        counted(x, "told", () -> x.told(0), BEYOND);
        counted(x, "restore", x::restore, NONE);
        for (int i = 0; i < 24; i++) {
            x.tell(0);
        }
        counted(x, "tell", () -> x.tell(0), FULL);
        counted(x, "years", () -> x.years(61), BEYOND);
        counted(x, "loose", () -> x.loose(21), BEYOND);
        for (int i = 0; i < 166; i++) {
            x.years(60);
        }
        counted(x, "years above", () -> x.years(60), STATE);
        x.years(30);
        counted(x, "loose above", () -> x.loose(20), STATE);
    }

    private static void promise36Sheets() {
        FurrowTalk x = Given.furrows(0, 10, 0);
        x.sheet(0, 8, 2);
        x.sheet(1, 16, 2);
        counted(x, "sheet", () -> x.sheet(4, 8, 1), BEYOND);
        counted(x, "sheet below 0", () -> x.sheet(0, 8, -1), STATE);
        counted(x, "sheet of 25", () -> x.sheet(0, 8, 25), BEYOND);
        counted(x, "put", () -> x.put(4, 0, 0), BEYOND);
        counted(x, "put missing", () -> x.put(2, 0, 0), NONE);
        counted(x, "put number", () -> x.put(0, 2, 0), BEYOND);
        counted(x, "move", () -> x.move(0, 0, 4, 0, 1), BEYOND);
        counted(x, "move missing", () -> x.move(0, 0, 2, 0, 1), NONE);
        counted(x, "move KIND", () -> x.move(0, 0, 1, 0, 1), KIND);
        counted(x, "move numbers", () -> x.move(0, 0, 0, 0, 3), BEYOND);
        counted(x, "lines", () -> x.lines(4), BEYOND);
        counted(x, "lines missing", () -> x.lines(2), NONE);
        counted(x, "judge", () -> x.judge(4), BEYOND);
        counted(x, "judge missing", () -> x.judge(2), NONE);
        counted(x, "fits", () -> x.fits(4), BEYOND);
        counted(x, "fits missing", () -> x.fits(2), NONE);
        counted(x, "fits not", () -> x.fits(1), NONE);
    }
}
