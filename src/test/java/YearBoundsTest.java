/** Sentences that name a boundary: of YEARS and draws in Terms 1, and of promises 14 to 16. */
public final class YearBoundsTest {
    private static final long BEYOND = Checks.BEYOND;
    private static final long STATE = Checks.STATE;
    private static final int MIN = Integer.MIN_VALUE;
    private static final int MAX = Integer.MAX_VALUE;

    private YearBoundsTest() {
    }

    public static void main(String[] args) {
        heardAtItsBegin();
        coveredInTheSameYear();
        whoAges();
        ageIsHeld();
        coveredByPatience();
        coveredByMoreThanPatience();
        yearIsOneMore();
        threeDraws();
        furrowsOfDraws();
        drawsWrap();
        thenAYear();
        years();
        yearsAbove();
        loose();
        looseAbove();
        seed();
        Checks.end();
    }

    private static void due(String what, long got, long want) {
        Checks.due(what, got, want);
    }

    private static void heardAtItsBegin() {
        Checks.sentence("A YEAR goes by: who is HEARD, is as at its begin.");
        FurrowTalk x = Given.furrows(0, 10, 0, 0, 10, 0, 0, 10, 0);
        x.patience(1);
        due("the last one alone is not HEARD", x.years(1), 2);
        due("it is COVERED", x.furrowIs(2, 6), 1);
        due("the one ahead was HEARD at the begin", x.furrowIs(1, 5), 0);
        due("it is not any more", x.years(1), 1);
        due("it is COVERED then", x.furrowIs(1, 6), 1);
        due("the first one, too", x.years(1), 0);
        due("its AGE", x.furrowIs(0, 5), 1);
    }

    private static void coveredInTheSameYear() {
        FurrowTalk x = Given.furrows(0, 10, 0, 0, 21, 0);
        x.cover(0, 1);
        x.years(4);
        x.cover(0, 0);
        x.plough(0, 10, 0);
        due("one between is COVERED in this YEAR", x.years(1), 2);
        due("it is that one", x.furrowIs(1, 6), 1);
        due("the one ahead was not HEARD at the begin", x.furrowIs(0, 5), 1);
        due("it is HEARD at the end", x.furrowIs(0, 9), 1);
        x.years(1);
        due("it was HEARD at the next begin", x.furrowIs(0, 5), 1);
        due("the last one wasn't", x.furrowIs(2, 5), 2);
    }

    private static void whoAges() {
        Checks.sentence("Of each SEEN one that isn't: AGE is 1 more");
        FurrowTalk x = Given.furrows(0, 10, 0, 0, 15, 0, 0, 21, 0);
        x.cover(2, 1);
        x.years(1);
        due("one that is HEARD", x.furrowIs(0, 5), 0);
        due("one that isn't", x.furrowIs(1, 5), 1);
        due("one that is COVERED", x.furrowIs(2, 5), 0);
        FurrowTalk y = Given.furrows(0, 10, 0, 0, 15, 0);
        y.redraw(1, 21);
        y.years(4);
        y.patience(1);
        y.redraw(1, 10);
        due("one of AGE 4 that is HEARD is not COVERED by PATIENCE 1", y.years(1), 1);
        due("its AGE stays", y.furrowIs(0, 5), 4);
    }

    private static void ageIsHeld() {
        Checks.sentence("(held at 99)");
        FurrowTalk x = Given.furrows(0, 10, 0);
        x.patience(1);
        for (int age = 1; age <= 99; age++) {
            x.cover(0, 0);
            x.years(1);
            due("AGE", x.furrowIs(0, 5), age);
        }
        for (int i = 0; i < 3; i++) {
            x.cover(0, 0);
            due("COVERED again", x.years(1), 0);
            due("AGE held", x.furrowIs(0, 5), 99);
        }
    }

    private static void coveredByPatience() {
        Checks.sentence("it is COVERED, if that is PATIENCE or more.");
        for (int patience = 1; patience <= 20; patience++) {
            FurrowTalk x = Given.furrows(0, 10, 0);
            x.patience(patience);
            if (patience > 1) {
                due("less than PATIENCE " + patience, x.years(patience - 1), 1);
            }
            due("AGE ahead of PATIENCE " + patience, x.furrowIs(0, 5), patience - 1);
            due("PATIENCE " + patience, x.years(1), 0);
            due("AGE at PATIENCE " + patience, x.furrowIs(0, 5), patience);
            due("behind PATIENCE " + patience, x.years(60), 0);
            due("a COVERED one doesn't age", x.furrowIs(0, 5), patience);
        }
    }

    private static void coveredByMoreThanPatience() {
        FurrowTalk x = Given.furrows(0, 10, 0);
        x.years(4);
        x.patience(3);
        due("more than PATIENCE, but no YEAR goes by", x.furrowIs(0, 6), 0);
        due("more than PATIENCE", x.years(1), 0);
        x.cover(0, 0);
        x.patience(6);
        due("AGE 6 by PATIENCE 6", x.years(1), 0);
        x.cover(0, 0);
        x.patience(8);
        due("AGE 7 by PATIENCE 8", x.years(1), 1);
        due("AGE 8 by PATIENCE 8", x.years(1), 0);
    }

    private static void yearIsOneMore() {
        Checks.sentence("YEAR is 1 more.");
        FurrowTalk x = new FurrowTalk();
        for (int i = 1; i <= 70; i++) {
            due("without FURROWS", x.years(1), 0);
            due("YEAR", x.count(2), i);
        }
        FurrowTalk y = new FurrowTalk();
        y.loose(1);
        due("by draws", y.count(2), 1);
    }

    private static int draw(int[] z) {
        z[0] = Rules.drawn(z[0]);
        return Rules.given(z[0]);
    }

    private static void threeDraws() {
        Checks.sentence("BY DRAWS a YEAR: if there are less than 12 FURROWS, three draws: one more");
        FurrowTalk x = new FurrowTalk();
        int[] z = {1};
        for (int i = 0; i < 11; i++) {
            x.plough(0, 10, 0);
        }
        x.loose(1);
        due("the 12th FURROW", x.count(0), 12);
        for (int i = 0; i < 3; i++) {
            draw(z);
        }
        due("three draws", x.count(7), z[0]);
        x.loose(1);
        due("no 13th FURROW", x.count(0), 12);
        due("no draws", x.count(7), z[0]);
        due("but a YEAR", x.count(2), 2);
        FurrowTalk y = Given.twelve();
        for (int i = 0; i < 12; i++) {
            y.cover(i, 1);
        }
        due("12 COVERED ones are 12 FURROWS", y.loose(1), 0);
        due("no draws of 12 COVERED ones", y.count(7), 1);
    }

    private static void furrowsOfDraws() {
        Checks.sentence("of the KIND that is the first one's rest by 7, m 0; the second one's rest by 72: LONG is 1"
            + " and that by 6 (cut), CROOK its rest by 6; of the HAND that is the third one's rest by 6");
        boolean[] kinds = new boolean[7];
        boolean[] lines = new boolean[72];
        boolean[] hands = new boolean[6];
        for (int seed = 0; seed < 3000; seed++) {
            FurrowTalk x = new FurrowTalk();
            x.seed(seed);
            x.loose(1);
            int[] z = {seed};
            int kind = draw(z) % 7;
            int line = draw(z) % 72;
            int hand = draw(z) % 6;
            due("KIND of " + seed, x.furrowIs(0, 0), kind);
            due("m of " + seed, x.furrowIs(0, 1), 0);
            due("LONG of " + seed, x.furrowIs(0, 2), 1 + line / 6);
            due("CROOK of " + seed, x.furrowIs(0, 3), line % 6);
            due("HAND of " + seed, x.furrowIs(0, 4), hand);
            kinds[kind] = true;
            lines[line] = true;
            hands[hand] = true;
        }
        due("the least and the greatest rest by 7", kinds[0] && kinds[6] ? 1 : 0, 1);
        due("the least and the greatest rest by 72", lines[0] && lines[71] ? 1 : 0, 1);
        due("the least and the greatest rest by 6", hands[0] && hands[5] ? 1 : 0, 1);
    }

    private static void drawsWrap() {
        Checks.sentence("DRAWS: z is told (1 at first); each makes it z * 1103515245 + 12345 (an int), and gives z"
            + " >>> 8.");
        due("z at first", new FurrowTalk().count(7), 1);
        for (int seed : new int[] {0, 1, -1, MIN, MIN + 1, MAX, MAX - 1, 1 << 30, 1103515245, -12345}) {
            FurrowTalk x = new FurrowTalk();
            x.seed(seed);
            x.loose(1);
            int[] z = {seed};
            due("KIND of " + seed, x.furrowIs(0, 0), draw(z) % 7);
            int line = draw(z) % 72;
            due("LONG of " + seed, x.furrowIs(0, 2), 1 + line / 6);
            due("CROOK of " + seed, x.furrowIs(0, 3), line % 6);
            due("HAND of " + seed, x.furrowIs(0, 4), draw(z) % 6);
            due("z of " + seed, x.count(7), z[0]);
        }
    }

    private static void thenAYear() {
        Checks.sentence("then a YEAR.");
        FurrowTalk x = new FurrowTalk();
        x.patience(1);
        due("one more is COVERED at once", x.loose(1), 0);
        due("it is there", x.count(0), 1);
        due("its AGE", x.furrowIs(0, 5), 1);
        FurrowTalk y = Given.furrows(0, 10, 0);
        y.seed(seedThatAnswersTen());
        y.loose(1);
        due("the one ahead is HEARD by the new one", y.furrowIs(0, 5), 0);
        due("the new one isn't HEARD", y.furrowIs(1, 5), 1);
    }

    /** A seed whose first FURROW is of KIND 0 and LONG 1. */
    private static int seedThatAnswersTen() {
        for (int seed = 0; seed < 100000; seed++) {
            int[] z = {seed};
            int kind = draw(z) % 7;
            if (kind == 0 && draw(z) % 72 / 6 == 0) {
                return seed;
            }
        }
        return -1;
    }

    private static void years() {
        Checks.sentence("n (1 .. 60) YEARS go by: how many are SEEN. BEYOND.");
        FurrowTalk x = Given.furrows(0, 10, 0);
        x.patience(20);
        due("the least n", x.years(1), 1);
        due("YEAR 1", x.count(2), 1);
        for (int n : new int[] {0, 61, -1, -60, MIN, MAX}) {
            due("n " + n, x.years(n), BEYOND);
        }
        due("YEAR stays", x.count(2), 1);
        due("AGE stays", x.furrowIs(0, 5), 1);
        due("the greatest n", x.years(60), 0);
        due("YEAR 61", x.count(2), 61);
        due("none is SEEN", x.years(1), 0);
    }

    private static void yearsAbove() {
        Checks.sentence("STATE: YEAR would be above 9999.");
        FurrowTalk x = new FurrowTalk();
        Given.atYear(x, 9940);
        due("up to 10000", x.years(60), STATE);
        due("YEAR stays", x.count(2), 9940);
        due("up to 9999", x.years(59), 0);
        due("YEAR 9999", x.count(2), 9999);
        x.plough(0, 10, 0);
        due("one above", x.years(1), STATE);
        due("far above", x.years(60), STATE);
        due("nothing aged", x.furrowIs(0, 5), 0);
        due("no YEARS BY DRAWS, either", x.loose(1), STATE);
        due("YEAR 9999 still", x.count(2), 9999);
    }

    private static void loose() {
        Checks.sentence("n (1 .. 20) YEARS BY DRAWS: how many are SEEN. BEYOND.");
        FurrowTalk x = new FurrowTalk();
        due("the least n", x.loose(1), 1);
        for (int n : new int[] {0, 21, -1, 60, MIN, MAX}) {
            due("n " + n, x.loose(n), BEYOND);
        }
        due("YEAR stays", x.count(2), 1);
        due("FURROWS stay", x.count(0), 1);
        FurrowTalk y = new FurrowTalk();
        y.patience(20);
        int[] z = {1};
        for (int i = 0; i < 36; i++) {
            draw(z);
        }
        int seen = y.loose(20);
        due("the greatest n", seen, y.count(1));
        due("YEAR 20", y.count(2), 20);
        due("12 FURROWS", y.count(0), 12);
        due("36 draws", y.count(7), z[0]);
    }

    private static void looseAbove() {
        Checks.sentence("STATE: YEAR would be above 9999.");
        FurrowTalk x = new FurrowTalk();
        Given.atYear(x, 9980);
        due("up to 10000", x.loose(20), STATE);
        due("FURROWS stay", x.count(0), 0);
        due("z stays", x.count(7), 1);
        due("up to 9999", x.loose(19), x.count(1));
        due("YEAR 9999", x.count(2), 9999);
        due("one above", x.loose(1), STATE);
        due("FURROWS", x.count(0), 12);
    }

    private static void seed() {
        Checks.sentence("z becomes v: what it was (any number).");
        FurrowTalk x = new FurrowTalk();
        due("as at first", x.seed(MIN), 1);
        due("the least int", x.seed(MAX), MIN);
        due("the greatest int", x.seed((int) Checks.PARTED), MAX);
        due("what looks like an ERROR", x.seed(0), Checks.PARTED);
        due("is none", x.told(6), 0);
        due("z", x.count(7), 0);
    }
}
