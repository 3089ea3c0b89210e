/** Sentences that name a boundary: of ERRORS, of Terms 1 but for its YEARS, and of promises 1 to 9. */
public final class FurrowBoundsTest {
    private static final long BEYOND = Checks.BEYOND;
    private static final int MIN = Integer.MIN_VALUE;
    private static final int MAX = Integer.MAX_VALUE;
    private static final int[][] KINDS_OF = {{0}, {0, 1}, {0, 2}, {0, 3}, {0, 1, 4}, {0, 2, 5}, {0, 6}};

    private FurrowBoundsTest() {
    }

    public static void main(String[] args) {
        calls();
        errors();
        order();
        orderOfSheets();
        quotients();
        howMany();
        kinds();
        numbers();
        lines();
        hands();
        covered();
        answersOfEachLine();
        answersAtBounds();
        depths();
        heard();
        isAnAnswer();
        newObject();
        plough();
        furrowIs();
        become();
        as();
        answers();
        cover();
        redraw();
        patience();
        Checks.end();
    }

    private static void due(String what, long got, long want) {
        Checks.due(what, got, want);
    }

    private static void calls() {
        Checks.sentence("An object is used for at most 512 calls after it has been made");
        FurrowTalk x = new FurrowTalk();
        for (int i = 1; i <= 512; i++) {
            due("image, call " + i, x.image(), i);
        }
        FurrowTalk y = new FurrowTalk();
        for (int i = 1; i <= 511; i++) {
            due("told(0), call " + i, y.told(0), BEYOND);
        }
        due("told(1), the 512th call", y.told(1), 511);
    }

    private static void errors() {
        Checks.sentence("LOW is -1000000000; LOW - 1 BEYOND, LOW - 2 NONE, LOW - 3 STATE, LOW - 4 FULL, LOW - 5"
            + " KIND, LOW - 6 PARTED");
        FurrowTalk x = Given.twelve();
        due("BEYOND", x.patience(0), -1000000001);
        due("NONE", x.body(0), -1000000002);
        due("STATE", x.odds(0, 0, 0), -1000000003);
        due("FULL", x.plough(0, 10, 0), -1000000004);
        due("KIND", x.as(0, 1), -1000000005);
        due("PARTED", x.voice(0, 3, 0), -1000000006);
        for (int k = 1; k <= 6; k++) {
            due("told(" + k + ")", x.told(k), 1);
        }
        Checks.sentence("ERRORS are answers below -1000000000");
        FurrowTalk y = new FurrowTalk();
        due("seed", y.seed(-1000000000), 1);
        due("LOW itself", y.seed(1), -1000000000);
        due("a FAULT", y.text(0), -10);
        for (int k = 1; k <= 6; k++) {
            due("told(" + k + ")", y.told(k), 0);
        }
    }

    private static void order() {
        Checks.sentence("Each act tells its ERRORS in the order in which they are asked");
        FurrowTalk x = Given.twelve();
        due("plough: BEYOND, FULL", x.plough(70, 10, 0), BEYOND);
        due("as: BEYOND of the FURROW, KIND", x.as(12, 1), BEYOND);
        due("as: BEYOND of the kind, KIND", x.as(0, 7), BEYOND);
        due("odds: BEYOND, STATE of 12", x.odds(70, 0, 0), BEYOND);
        due("voice: BEYOND, PARTED", x.voice(0, 4, 0), BEYOND);
        due("voice: BEYOND of the FURROW, PARTED", x.voice(12, 3, 0), BEYOND);
        Given.feed(x, "123456789012345678901234567890123456789012345678901234567890");
        due("feed: BEYOND, FULL", x.feed(0, 9), BEYOND);
        due("feed: BEYOND, FULL, below", x.feed(0, 0), BEYOND);
        Given.atYear(x, 9999);
        due("years: BEYOND, STATE", x.years(61), BEYOND);
        due("years: BEYOND, STATE, below", x.years(0), BEYOND);
        due("loose: BEYOND, STATE", x.loose(21), BEYOND);
        due("loose: BEYOND, STATE, below", x.loose(0), BEYOND);
        due("reply: BEYOND, STATE", x.reply(9, 0), BEYOND);
        due("reply: BEYOND of what, STATE", x.reply(10, 2), BEYOND);
        FurrowTalk y = new FurrowTalk();
        due("odds: BEYOND, STATE of none", y.odds(0, 6, 0), BEYOND);
        due("odds: BEYOND of part, STATE of none", y.odds(0, 0, 2), BEYOND);
    }

    private static void orderOfSheets() {
        FurrowTalk x = Given.furrows(0, 10, 0);
        due("sheet: BEYOND of the SHEET, STATE", x.sheet(4, 8, -1), BEYOND);
        due("sheet: BEYOND of bits, STATE", x.sheet(0, 7, -1), BEYOND);
        due("sheet: STATE, BEYOND of n", x.sheet(0, 8, -25), Checks.STATE);
        due("put: BEYOND, NONE", x.put(4, 0, 0), BEYOND);
        due("put: NONE, BEYOND of the number", x.put(0, 24, 0), Checks.NONE);
        due("fits: BEYOND, NONE", x.fits(4), BEYOND);
        due("lines: BEYOND, NONE", x.lines(-1), BEYOND);
        due("judge: BEYOND, NONE", x.judge(-1), BEYOND);
        x.sheet(0, 8, 1);
        x.sheet(1, 16, 1);
        due("move: BEYOND, NONE", x.move(2, 0, 4, 0, 1), BEYOND);
        due("move: BEYOND, NONE, the first", x.move(-1, 0, 2, 0, 1), BEYOND);
        due("move: NONE, KIND", x.move(0, 0, 2, 0, 1), Checks.NONE);
        due("move: NONE, BEYOND of n", x.move(2, 0, 0, 0, -1), Checks.NONE);
        due("move: KIND, BEYOND of n", x.move(0, 0, 1, 0, -1), Checks.KIND);
        due("move: KIND, BEYOND of i", x.move(0, 2, 1, 0, 1), Checks.KIND);
    }

    private static void quotients() {
        Checks.sentence("Quotients are cut toward 0");
        FurrowTalk x = Given.furrows(30, 10, 0, 3, 10, 0, 0, 10, 0);
        due("hums of -7 by 2", x.voice(0, 2, -7), -6);
        due("hums of 7 by 2", x.voice(0, 2, 7), 6);
        due("parts of -7 by 2", x.voice(1, 3, -7), -3);
        due("parts of 7 by 2", x.voice(1, 3, 7), 3);
        due("parts of 7 by -2", x.voice(2, 3, 7), -3);
        due("parts of -7 by -2", x.voice(2, 3, -7), 3);
        due("parts of 1 by -2", x.voice(2, 3, 1), 0);
        Given.text(x, 1, "l/c");
        due("TEXT, -7 by 2", x.law(1, -7, 2, 0), -3);
        due("TEXT, 7 by -2", x.law(1, 7, -2, 0), -3);
        due("TEXT, -7 by -2", x.law(1, -7, -2, 0), 3);
        due("TEXT, -1 by 2", x.law(1, -1, 2, 0), 0);
    }

    private static void howMany() {
        Checks.sentence("FURROWS 0, 1, .. (at most 12), one behind the other");
        FurrowTalk x = Given.twelve();
        due("the 13th", x.plough(0, 10, 0), Checks.FULL);
        due("FURROWS", x.count(0), 12);
        due("the first", x.furrowIs(0, 2), 1);
        due("the last", x.furrowIs(11, 2), 1);
        due("ahead of the first", x.furrowIs(-1, 2), BEYOND);
        due("behind the last", x.furrowIs(12, 2), BEYOND);
        due("by draws neither", x.loose(1), 12);
        due("FURROWS still", x.count(0), 12);
    }

    private static boolean isOf(int kind, int asked) {
        for (int k : KINDS_OF[kind]) {
            if (k == asked) {
                return true;
            }
        }
        return false;
    }

    private static void kinds() {
        Checks.sentence("of KINDS: 0 FURROW, 1 OATH under FURROW, 2 ROUND under FURROW, 3 REPLY under FURROW, 4"
            + " SWORN under OATH, 5 DIAMOND under ROUND, 6 DEEP under FURROW");
        for (int kind = 0; kind < 7; kind++) {
            FurrowTalk x = Given.furrows(10 * kind + 9, 10, 0);
            due("KIND " + kind, x.furrowIs(0, 0), kind);
            for (int asked = 0; asked < 7; asked++) {
                due(kind + " as " + asked, x.as(0, asked), isOf(kind, asked) ? 9 : Checks.KIND);
            }
        }
        due("no KIND 7", new FurrowTalk().plough(70, 10, 0), BEYOND);
    }

    private static void numbers() {
        Checks.sentence("each with a number m (0 .. 9)");
        for (int km = 0; km < 70; km++) {
            FurrowTalk x = Given.furrows(km, 10, 0);
            due("KIND of km " + km, x.furrowIs(0, 0), km / 10);
            due("m of km " + km, x.furrowIs(0, 1), km % 10);
        }
    }

    private static void lines() {
        Checks.sentence("a LINE (LONG 1 .. 12, CROOK 0 .. 5; told as 10 times LONG, and CROOK)");
        FurrowTalk x = new FurrowTalk();
        int line = 125;
        for (int lc = -150; lc <= 150; lc++) {
            if (lc % 100 == -50 || lc % 100 == 50) {
                x = Given.furrows(0, line, 0);
            }
            if (Rules.isLine(lc)) {
                due("redraw to " + lc, x.redraw(0, lc), line);
                due("LONG of " + lc, x.furrowIs(0, 2), lc / 10);
                due("CROOK of " + lc, x.furrowIs(0, 3), lc % 10);
                line = lc;
            } else {
                due("no LINE " + lc, x.redraw(0, lc), BEYOND);
            }
        }
    }

    private static void hands() {
        Checks.sentence("of a HAND (0 .. 5)");
        FurrowTalk x = Given.furrows(0, 10, 0, 0, 10, 5);
        due("the least", x.furrowIs(0, 4), 0);
        due("the greatest", x.furrowIs(1, 4), 5);
        for (int hand : new int[] {-1, 6, MIN, MAX}) {
            due("plough, HAND " + hand, x.plough(0, 10, hand), BEYOND);
        }
    }

    private static void covered() {
        Checks.sentence("COVERED (1) or not (0, at first), AGE (0 .. 99; 0 at first)");
        FurrowTalk x = Given.furrows(69, 125, 5);
        due("COVERED at first", x.furrowIs(0, 6), 0);
        due("AGE at first", x.furrowIs(0, 5), 0);
        due("it was not", x.cover(0, 1), 0);
        due("COVERED then", x.furrowIs(0, 6), 1);
        due("AGE is as it was", x.furrowIs(0, 5), 0);
        FurrowTalk z = new FurrowTalk();
        z.image();
        z.plough(0, 10, 0);
        z.years(60);
        z.restore();
        z.plough(0, 10, 0);
        due("COVERED at first, where another one was", z.furrowIs(0, 6), 0);
        due("AGE at first, where another one was", z.furrowIs(0, 5), 0);
        Checks.sentence("YEAR (0 .. 9999; 0 at first), PATIENCE (1 .. 20; 5 at first)");
        FurrowTalk y = new FurrowTalk();
        due("YEAR at first", y.count(2), 0);
        due("PATIENCE at first", y.count(3), 5);
        Checks.sentence("SEEN is what is not COVERED.");
        due("one of none", y.count(1), 0);
        due("the COVERED one", x.count(1), 0);
        x.cover(0, 0);
        due("not COVERED", x.count(1), 1);
    }

    private static void answersOfEachLine() {
        Checks.sentence("ANSWERS (one to another one)");
        for (int kind = 0; kind < 7; kind++) {
            for (int lc = 10; lc <= 125; lc++) {
                for (int hand = 0; Rules.isLine(lc) && hand < 2; hand++) {
                    answersToEachLine(kind, lc, hand);
                }
            }
        }
    }

    private static void answersToEachLine(int kind, int lc, int hand) {
        FurrowTalk x = Given.furrows(50, 10, 0, 10 * kind, lc, hand);
        for (int to = 10; to <= 125; to++) {
            if (Rules.isLine(to)) {
                x.redraw(0, to);
                due(kind + ": " + lc + " to " + to, x.answers(1, 0), Rules.echoes(kind, lc, to, hand == 0) ? 1 : 0);
            }
        }
    }

    private static void oneAnswers(String sentence, int kind, String lines, String want) {
        Checks.sentence(sentence);
        String[] pairs = lines.split(" ");
        for (int i = 0; i < pairs.length; i++) {
            String[] pair = pairs[i].split(":");
            int lc = Integer.parseInt(pair[0]);
            int to = Integer.parseInt(pair[1]);
            FurrowTalk x = Given.furrows(0, to, 1, 10 * kind, lc, 2);
            due(lc + " to " + to, x.answers(1, 0), want.charAt(i) - '0');
        }
    }

    private static void answersAtBounds() {
        oneAnswers("FURROW: if both are as LONG, or have as much CROOK.", 0, "10:15 10:120 10:25 125:125", "1101");
        oneAnswers("OATH: if both are as LONG.", 1, "10:15 10:20 120:125 120:110", "1010");
        oneAnswers("ROUND: if it has as much CROOK or more.", 2, "13:23 14:23 12:23 15:120 10:125 10:10", "110101");
        oneAnswers("REPLY: as FURROW; also if LONG and CROOK together are as much.", 3,
            "15:60 15:61 15:51 60:15 14:23 14:24 25:34 11:22", "10111110");
        oneAnswers("SWORN: as OATH, and if both have as much CROOK.", 4, "10:10 10:11 10:20 125:125", "1001");
        oneAnswers("DIAMOND: just if it would not as a ROUND.", 5, "13:23 14:23 12:23 15:120 10:125 10:10", "001010");
        oneAnswers("DEEP: as FURROW; also if both are of one HAND.", 6, "10:15 10:120 10:25", "110");
        due("of one HAND", Given.furrows(0, 10, 5, 60, 25, 5).answers(1, 0), 1);
        due("the other one's KIND doesn't matter", Given.furrows(60, 10, 5, 0, 25, 5).answers(1, 0), 0);
    }

    private static int depth(int km, int lc) {
        int m = km % 10;
        return new int[] {m, m + 2, 2 * m, m, m + 2 + lc % 10, 2 * m - 1, m + lc / 10}[km / 10];
    }

    private static void depths() {
        Checks.sentence("DEPTH: FURROW, REPLY: m. OATH: m and 2. ROUND: twice m. SWORN: as OATH, and CROOK."
            + " DIAMOND: as ROUND, less 1. DEEP: m and LONG.");
        due("the least", Given.furrows(50, 125, 0).furrowIs(0, 7), -1);
        due("the greatest", Given.furrows(69, 125, 0).furrowIs(0, 7), 21);
        due("the greatest of SWORN", Given.furrows(49, 125, 0).furrowIs(0, 7), 16);
        for (int km = 0; km < 70; km++) {
            for (int lc : new int[] {10, 15, 64, 120, 125}) {
                due("of " + km + ", " + lc, Given.furrows(km, lc, 0).furrowIs(0, 7), depth(km, lc));
            }
        }
    }

    private static void heard() {
        Checks.sentence("HEARD is one, if there is a next one SEEN behind it, and that ANSWERS it.");
        FurrowTalk x = Given.furrows(0, 10, 0);
        due("none is behind it", x.furrowIs(0, 9), 0);
        x.plough(0, 15, 0);
        due("the next one ANSWERS", x.furrowIs(0, 9), 1);
        x.cover(1, 1);
        due("none is SEEN behind it", x.furrowIs(0, 9), 0);
        x.plough(0, 21, 0);
        due("the next one SEEN does not", x.furrowIs(0, 9), 0);
        x.plough(0, 11, 0);
        due("the one behind that doesn't matter", x.furrowIs(0, 9), 0);
        x.cover(2, 1);
        due("the next one SEEN does", x.furrowIs(0, 9), 1);
        FurrowTalk y = Given.furrows(10, 10, 0, 20, 25, 0);
        due("the one behind ANSWERS, not the one ahead", y.furrowIs(0, 9), 1);
    }

    private static void isAnAnswer() {
        Checks.sentence("A SEEN one IS AN ANSWER, if it ANSWERS the nearest SEEN one ahead of it (the first SEEN"
            + " one is not).");
        FurrowTalk x = Given.furrows(0, 10, 0);
        due("the first one", x.talk(1), 0);
        x.plough(0, 15, 0);
        due("the second one", x.talk(1), 1);
        x.cover(0, 1);
        due("it is the first SEEN one then", x.talk(1), 0);
        x.cover(0, 0);
        x.plough(0, 20, 0);
        due("it ANSWERS one, but not the nearest", x.talk(1), 1);
        x.cover(1, 1);
        due("the nearest one is COVERED", x.talk(1), 1);
        x.cover(2, 1);
        due("a COVERED one is not", x.talk(1), 0);
    }

    private static void newObject() {
        Checks.sentence("All as at first; no FURROWS, no TEXTS.");
        FurrowTalk x = new FurrowTalk();
        long[] first = {0, 0, 0, 5, 0, 0, 0, 1};
        for (int i = 0; i < first.length; i++) {
            due("count(" + i + ")", x.count(i), first[i]);
        }
        due("furrowIs", x.furrowIs(0, 0), BEYOND);
        due("become", x.become(0, 0), BEYOND);
        due("as", x.as(0, 0), BEYOND);
        due("answers", x.answers(0, 1), BEYOND);
        due("cover", x.cover(0, 0), BEYOND);
        due("redraw", x.redraw(0, 10), BEYOND);
        due("voice", x.voice(0, 0, 0), BEYOND);
        due("law of COST", x.law(0, 1, 1, 0), 2);
        due("law of SENSE", x.law(1, 2, 3, 0), 6);
        due("untell", x.untell(0) + x.untell(1), 0);
        due("talk", x.talk(0) + x.talk(1) + x.talk(2), 0);
        due("meaning", x.meaning(-1), 0);
        due("then", x.then(0, 0) + x.then(0, 1), 0);
        due("fewest", x.fewest(0) + x.fewest(1), 0);
        due("reply", x.reply(10, 0), Checks.STATE);
        due("odds", x.odds(0, 0, 0), Checks.STATE);
        due("body", x.body(0), Checks.NONE);
        for (int s = 0; s < 4; s++) {
            due("judge(" + s + ")", x.judge(s), Checks.NONE);
        }
        due("restore", x.restore(), Checks.NONE);
        due("check", x.check(), 0);
        due("years", x.years(1), 0);
    }

    private static void plough() {
        Checks.sentence("One more FURROW (km: 10 times the KIND, and m; lc: the LINE): the number. BEYOND. FULL.");
        FurrowTalk x = new FurrowTalk();
        for (int km : new int[] {-1, 70, 79, MIN, MAX}) {
            due("km " + km, x.plough(km, 10, 0), BEYOND);
        }
        for (int lc : new int[] {0, 5, 9, 16, 19, 26, 116, 126, 130, 135, -10, MIN, MAX}) {
            due("lc " + lc, x.plough(0, lc, 0), BEYOND);
        }
        due("none of them", x.count(0), 0);
        due("the least of all", x.plough(0, 10, 0), 0);
        due("the greatest of all", x.plough(69, 125, 5), 1);
        for (int i = 2; i < 12; i++) {
            due("the number " + i, x.plough(0, 10, 0), i);
        }
        due("FULL", x.plough(0, 10, 0), Checks.FULL);
        due("BEYOND first", x.plough(0, 10, -1), BEYOND);
        x.cover(11, 1);
        due("FULL of COVERED ones, too", x.plough(0, 10, 0), Checks.FULL);
    }

    private static void furrowIs() {
        Checks.sentence("Of a FURROW: 0 KIND, 1 m, 2 LONG, 3 CROOK, 4 HAND, 5 AGE, 6 COVERED, 7 DEPTH, 8 SENSE, 9"
            + " HEARD (1; 0 not) (7, 8: any number). BEYOND.");
        FurrowTalk x = Given.furrows(57, 64, 3, 49, 105, 4);
        x.years(1);
        x.cover(1, 1);
        long[] is = {4, 9, 10, 5, 4, 1, 1, 16, 50, 0};
        for (int what = 0; what < is.length; what++) {
            due("what " + what, x.furrowIs(1, what), is[what]);
        }
        for (int what : new int[] {-1, 10, MIN, MAX}) {
            due("what " + what, x.furrowIs(1, what), BEYOND);
        }
        for (int furrow : new int[] {-1, 2, 11, 12, MIN, MAX}) {
            due("FURROW " + furrow, x.furrowIs(furrow, 0), BEYOND);
        }
    }

    private static void become() {
        Checks.sentence("A FURROW becomes one of a KIND, with m (km): the KIND that it was. BEYOND.");
        FurrowTalk x = Given.furrows(69, 64, 3);
        due("the least", x.become(0, 0), 6);
        due("the greatest", x.become(0, 69), 0);
        due("the same", x.become(0, 69), 6);
        for (int km : new int[] {-1, 70, MIN, MAX}) {
            due("km " + km, x.become(0, km), BEYOND);
        }
        for (int furrow : new int[] {-1, 1, 12, MIN, MAX}) {
            due("FURROW " + furrow, x.become(furrow, 0), BEYOND);
        }
        due("KIND stays", x.furrowIs(0, 0), 6);
        due("m stays", x.furrowIs(0, 1), 9);
    }

    private static void as() {
        Checks.sentence("A FURROW as one of a KIND: m. BEYOND. KIND: it isn't of that KIND, nor of one under it.");
        FurrowTalk x = Given.furrows(40, 10, 0, 19, 10, 0);
        due("of that KIND, m 0", x.as(0, 4), 0);
        due("of one under it", x.as(0, 1), 0);
        due("of one under one under it", x.as(0, 0), 0);
        due("of one above it", x.as(1, 4), Checks.KIND);
        due("of another one", x.as(0, 2), Checks.KIND);
        due("m 9", x.as(1, 1), 9);
        for (int kind : new int[] {-1, 7, MIN, MAX}) {
            due("kind " + kind, x.as(0, kind), BEYOND);
        }
        for (int furrow : new int[] {-1, 2, MIN, MAX}) {
            due("FURROW " + furrow, x.as(furrow, 0), BEYOND);
        }
    }

    private static void answers() {
        Checks.sentence("Whether a FURROW ANSWERS another one (wherever they are): 1, 0. BEYOND: also one and the"
            + " same.");
        FurrowTalk x = Given.twelve();
        due("the first to the last", x.answers(0, 11), 1);
        due("the last to the first", x.answers(11, 0), 1);
        x.cover(0, 1);
        x.cover(5, 1);
        due("to a COVERED one", x.answers(11, 0), 1);
        due("a COVERED one to another", x.answers(5, 0), 1);
        x.redraw(0, 21);
        due("it doesn't", x.answers(11, 0), 0);
        for (int furrow : new int[] {-1, 12, MIN, MAX}) {
            due("FURROW " + furrow, x.answers(furrow, 0), BEYOND);
            due("to " + furrow, x.answers(0, furrow), BEYOND);
            due("both " + furrow, x.answers(furrow, furrow), BEYOND);
        }
        due("the first to itself", x.answers(0, 0), BEYOND);
        due("the last to itself", x.answers(11, 11), BEYOND);
    }

    private static void cover() {
        Checks.sentence("A FURROW is COVERED (1), or isn't (0): what it was. BEYOND.");
        FurrowTalk x = Given.furrows(0, 10, 0);
        due("not, as it was", x.cover(0, 0), 0);
        due("COVERED", x.cover(0, 1), 0);
        due("COVERED, as it was", x.cover(0, 1), 1);
        due("not", x.cover(0, 0), 1);
        for (int is : new int[] {-1, 2, MIN, MAX}) {
            due("is " + is, x.cover(0, is), BEYOND);
        }
        for (int furrow : new int[] {-1, 1, MIN, MAX}) {
            due("FURROW " + furrow, x.cover(furrow, 1), BEYOND);
        }
        due("it stays", x.furrowIs(0, 6), 0);
    }

    private static void redraw() {
        Checks.sentence("The LINE of a FURROW becomes so: what it was. BEYOND.");
        FurrowTalk x = Given.furrows(0, 10, 0);
        due("the greatest", x.redraw(0, 125), 10);
        due("the least", x.redraw(0, 10), 125);
        due("the same", x.redraw(0, 10), 10);
        for (int lc : new int[] {9, 16, 126, 130, MIN, MAX}) {
            due("lc " + lc, x.redraw(0, lc), BEYOND);
        }
        for (int furrow : new int[] {-1, 1, MIN, MAX}) {
            due("FURROW " + furrow, x.redraw(furrow, 125), BEYOND);
        }
        due("it stays", x.redraw(0, 10), 10);
    }

    private static void patience() {
        Checks.sentence("PATIENCE becomes v: what it was. BEYOND.");
        FurrowTalk x = new FurrowTalk();
        due("the least", x.patience(1), 5);
        due("the greatest", x.patience(20), 1);
        due("the same", x.patience(20), 20);
        for (int v : new int[] {0, 21, -1, MIN, MAX}) {
            due("v " + v, x.patience(v), BEYOND);
        }
        due("it stays", x.count(3), 20);
    }
}
