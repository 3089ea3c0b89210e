/** Sentences that name a boundary: of Terms 3, and of promises 17 to 23. */
public final class ThoughtBoundsTest {
    private static final long BEYOND = Checks.BEYOND;
    private static final long STATE = Checks.STATE;
    private static final long NONE = Checks.NONE;
    private static final int MIN = Integer.MIN_VALUE;
    private static final int MAX = Integer.MAX_VALUE;

    private ThoughtBoundsTest() {
    }

    public static void main(String[] args) {
        onlyThought();
        yearBeyond();
        talkOfNone();
        talk();
        meaningOfAHand();
        meaning();
        thenIsYears();
        then();
        fewestOfEach();
        fewestOfSeveral();
        fewest();
        replySteps();
        replyOfSeveral();
        reply();
        oddsOfEachLine();
        odds();
        fitsFirst();
        fitsBySixty();
        fits();
        Checks.end();
    }

    private static void due(String what, long got, long want) {
        Checks.due(what, got, want);
    }

    private static void onlyThought() {
        Checks.sentence("(All this is only thought");
        FurrowTalk x = Given.furrows(0, 42, 0, 10, 45, 1, 0, 31, 2);
        x.cover(2, 1);
        Given.row(x, 0, 8, 4);
        for (int i = 0; i < 3; i++) {
            due("talk", x.talk(0), 2);
            due("meaning", x.meaning(-1), 20);
            due("then", x.then(60, 1), 0);
            due("fewest", x.fewest(1), 0);
            due("reply", x.reply(125, 0), 8);
            due("odds", x.odds(60, 0, 0), 17);
            due("fits", x.fits(0), 5);
            due("YEAR", x.count(2), 0);
            due("SEEN", x.count(1), 2);
            due("AGE of the first", x.furrowIs(0, 5), 0);
            due("AGE of the second", x.furrowIs(1, 5), 0);
            due("COVERED", x.furrowIs(2, 6), 1);
            due("LINE of the last SEEN one", x.furrowIs(1, 3), 5);
            due("FURROWS", x.count(0), 3);
            due("z", x.count(7), 1);
        }
    }

    private static void yearBeyond() {
        Checks.sentence("YEAR beyond 9999, too.)");
        FurrowTalk x = new FurrowTalk();
        Given.atYear(x, 9999);
        x.plough(0, 10, 0);
        x.plough(0, 10, 0);
        due("now", x.then(0, 1), 3);
        due("one YEAR on", x.then(1, 1), 3);
        due("5 YEARS on", x.then(5, 1), 1);
        due("60 YEARS on", x.then(60, 1), 0);
        Given.row(x, 0, 8, 1);
        due("fits behind 5", x.fits(0), 5);
        Given.row(x, 0, 8);
        due("fits behind 10", x.fits(0), 10);
        due("YEAR stays", x.count(2), 9999);
        due("no YEAR goes by", x.years(1), STATE);
    }

    private static void talkOfNone() {
        Checks.sentence("TALK: the most SEEN ones one behind the other of which each but the first ANSWERS the one"
            + " ahead (0, if none is SEEN).");
        FurrowTalk x = new FurrowTalk();
        due("no FURROWS", x.talk(0), 0);
        x.plough(40, 10, 0);
        due("one alone", x.talk(0), 1);
        x.cover(0, 1);
        due("none is SEEN", x.talk(0), 0);
        x.cover(0, 0);
        x.plough(40, 21, 0);
        due("two that don't ANSWER", x.talk(0), 1);
        due("all of 12", Given.twelve().talk(0), 12);
        FurrowTalk y = Given.furrows(0, 10, 0, 0, 10, 0, 0, 21, 0, 0, 21, 0, 0, 21, 0, 0, 32, 0, 0, 32, 0);
        due("the most are between", y.talk(0), 3);
        y.redraw(5, 21);
        y.redraw(6, 22);
        due("the most are the last", y.talk(0), 5);
        y.redraw(2, 10);
        y.redraw(3, 10);
        due("the most are the first", y.talk(0), 4);
        y.cover(4, 1);
        due("a COVERED one is none between", y.talk(0), 4);
        y.redraw(5, 15);
        due("what is SEEN goes on behind it", y.talk(0), 5);
    }

    private static void talk() {
        Checks.sentence("What 0 TALK, 1 how many SEEN ones ARE ANSWERS, 2 how many are SEEN. BEYOND.");
        FurrowTalk x = Given.twelve();
        due("what 0", x.talk(0), 12);
        due("what 1", x.talk(1), 11);
        due("what 2", x.talk(2), 12);
        for (int what : new int[] {-1, 3, MIN, MAX}) {
            due("what " + what, x.talk(what), BEYOND);
        }
        for (int i = 0; i < 12; i++) {
            x.cover(i, 1);
        }
        due("none, 0", x.talk(0), 0);
        due("none, 1", x.talk(1), 0);
        due("none, 2", x.talk(2), 0);
    }

    private static void meaningOfAHand() {
        Checks.sentence("MEANING of a HAND: SENSE of all SEEN ones of it that ARE ANSWERS, together.");
        FurrowTalk x = Given.furrows(0, 15, 3);
        due("the first SEEN one is no ANSWER", x.meaning(3), 0);
        x.plough(0, 25, 3);
        due("the second one is", x.meaning(3), 10);
        x.plough(0, 45, 4);
        due("of its HAND alone", x.meaning(3), 10);
        due("of the other HAND", x.meaning(4), 20);
        x.plough(40, 44, 3);
        due("one that is no ANSWER", x.meaning(3), 10);
        x.cover(0, 1);
        due("the second is the first SEEN one", x.meaning(3), 0);
        x.cover(2, 1);
        due("one that is COVERED", x.meaning(4), 0);
        x.cover(1, 1);
        x.cover(3, 1);
        due("none is SEEN", x.meaning(-1), 0);
        FurrowTalk y = Given.twelve();
        Given.text(y, 1, "l*9999");
        due("each is held ahead of it", y.meaning(-1), 1089);
        Given.text(y, 1, "0-l*9999");
        due("the least", y.meaning(0), -1089);
    }

    private static void meaning() {
        Checks.sentence("MEANING of a HAND (-1: of all; any number). BEYOND.");
        FurrowTalk x = Given.furrows(0, 15, 0);
        for (int hand = 0; hand <= 5; hand++) {
            x.plough(0, 15 + 10 * hand, hand);
        }
        for (int hand = 0; hand <= 5; hand++) {
            due("HAND " + hand, x.meaning(hand), 5 + 5 * hand);
        }
        due("of all", x.meaning(-1), 105);
        for (int hand : new int[] {-2, 6, MIN, MAX}) {
            due("HAND " + hand, x.meaning(hand), BEYOND);
        }
        due("no FURROWS, of all", new FurrowTalk().meaning(-1), 0);
        due("no FURROWS, of 5", new FurrowTalk().meaning(5), 0);
    }

    private static FurrowTalk six() {
        FurrowTalk x = Given.furrows(0, 10, 0, 10, 15, 1, 20, 64, 2, 50, 75, 3, 60, 121, 4, 60, 30, 4);
        x.patience(20);
        x.years(7);
        x.patience(9);
        return x;
    }

    private static void thenIsYears() {
        Checks.sentence("THEN: what is SEEN, n YEARS on.");
        FurrowTalk thought = six();
        for (int n = 1; n <= 60; n++) {
            FurrowTalk lived = six();
            due("how many, " + n, thought.then(n, 0), lived.years(n));
            int set = 0;
            for (int i = 0; i < 6; i++) {
                set |= lived.furrowIs(i, 6) == 0 ? 1 << i : 0;
            }
            due("the set, " + n, thought.then(n, 1), set);
        }
        due("as it is", thought.then(0, 1), 63);
        due("as it is, how many", thought.then(0, 0), 6);
    }

    private static void then() {
        Checks.sentence("THEN, for n (0 .. 60): what 0 how many, 1 the set. BEYOND.");
        FurrowTalk x = Given.twelve();
        due("the set of all", x.then(0, 1), 4095);
        due("all", x.then(0, 0), 12);
        x.cover(0, 1);
        due("not the first", x.then(0, 1), 4094);
        due("4 on", x.then(4, 1), 4094);
        due("5 on", x.then(5, 1), 2046);
        due("9 on", x.then(9, 1), 2046);
        due("10 on", x.then(10, 1), 1022);
        due("54 on", x.then(54, 1), 2);
        due("55 on", x.then(55, 1), 0);
        due("60 on", x.then(60, 0), 0);
        for (int n : new int[] {-1, 61, MIN, MAX}) {
            due("n " + n, x.then(n, 0), BEYOND);
        }
        for (int what : new int[] {-1, 2, MIN, MAX}) {
            due("what " + what, x.then(1, what), BEYOND);
        }
        due("no FURROWS", new FurrowTalk().then(60, 1), 0);
    }

    private static void fewestOfEach() {
        Checks.sentence("FEWEST: the fewest FURROWS to be COVERED besides so that of those SEEN then each but the"
            + " first ANSWERS the one ahead");
        FurrowTalk x = new FurrowTalk();
        due("no FURROWS", x.fewest(0), 0);
        x.plough(40, 10, 0);
        due("one alone", x.fewest(0), 0);
        x.plough(40, 21, 0);
        due("one of two", x.fewest(0), 1);
        x.cover(0, 1);
        due("one is SEEN", x.fewest(0), 0);
        due("none of them", x.fewest(1), 0);
        x.cover(1, 1);
        due("none is SEEN", x.fewest(0), 0);
        FurrowTalk y = Given.twelve();
        due("all of 12 ANSWER", y.fewest(0), 0);
        due("none of 12", y.fewest(1), 0);
        for (int i = 0; i < 12; i++) {
            y.become(i, 40);
            y.redraw(i, 10 + 10 * i);
        }
        due("none of 12 ANSWERS", y.fewest(0), 11);
        due("the last one stays", y.fewest(1), 2047);
        y.redraw(0, 120);
        due("the first and the last", y.fewest(1), 2046);
        y.cover(5, 1);
        due("besides", y.fewest(0), 9);
        due("the COVERED one is not in it", y.fewest(1), 2014);
    }

    private static void fewestOfSeveral() {
        Checks.sentence("of several sets the least (bits; one that is COVERED need not be in it).");
        FurrowTalk x = Given.furrows(40, 10, 0, 40, 21, 0);
        due("the first one of two", x.fewest(1), 1);
        FurrowTalk y = Given.furrows(40, 10, 0, 40, 21, 0, 40, 10, 0, 40, 21, 0);
        due("two of four", y.fewest(0), 2);
        due("0 and 2, not 1 and 3", y.fewest(1), 5);
        y.cover(2, 1);
        due("one pair is left", y.fewest(1), 1);
        FurrowTalk z = Given.furrows(40, 33, 0, 40, 10, 0, 40, 33, 0, 40, 10, 0, 40, 21, 0);
        due("three of five", z.fewest(0), 3);
        due("the last bit costs most", z.fewest(1), 21);
        FurrowTalk w = Given.furrows(0, 10, 0, 0, 21, 0, 0, 32, 0, 0, 13, 0, 0, 24, 0);
        due("of sets of as many the least", w.fewest(1), 13);
    }

    private static void fewest() {
        Checks.sentence("FEWEST: what 0 how many, 1 the set. BEYOND.");
        FurrowTalk x = Given.furrows(40, 10, 0, 40, 21, 0, 40, 32, 0);
        due("how many", x.fewest(0), 2);
        due("the set", x.fewest(1), 3);
        for (int what : new int[] {-1, 2, MIN, MAX}) {
            due("what " + what, x.fewest(what), BEYOND);
        }
    }

    private static void replySteps() {
        Checks.sentence("A REPLY to a LINE: from the LINE of the last SEEN one by steps, at each of which either"
            + " LONG or CROOK becomes another one (not both): the least COST of all steps together");
        FurrowTalk x = Given.furrows(0, 64, 0, 0, 10, 0);
        due("from the least to the greatest", x.reply(125, 0), 16);
        Given.text(x, 0, "1");
        due("one step of LONG", x.reply(120, 0), 1);
        due("one step of CROOK", x.reply(15, 0), 1);
        due("not both in one", x.reply(125, 0), 2);
        Given.text(x, 0, "99");
        due("two dear steps", x.reply(125, 0), 198);
        Given.text(x, 0, "(a=11)*98+1+(b>0)*98");
        due("rather two of LONG", x.reply(120, 0), 2);
        Given.text(x, 0, "0");
        due("each step costs 1 at least", x.reply(125, 0), 2);
        Given.text(x, 0, "a*a+b*b");
        due("all in steps of one", x.reply(125, 0), 16);
        x.cover(1, 1);
        due("from the last SEEN one", x.reply(64, 0), 0);
        due("from the last SEEN one by a step", x.reply(65, 0), 1);
    }

    private static void replyOfSeveral() {
        Checks.sentence("the LINE behind the first step of such a way, of several the least.");
        FurrowTalk x = Given.furrows(0, 10, 0);
        due("CROOK first, by one", x.reply(125, 1), 11);
        due("LONG alone, by one", x.reply(120, 1), 20);
        x.redraw(0, 125);
        due("LONG first, to the end", x.reply(10, 1), 15);
        due("CROOK alone, to the end", x.reply(120, 1), 120);
        x.redraw(0, 64);
        Given.text(x, 0, "1");
        due("CROOK down ahead of LONG up", x.reply(120, 1), 60);
        due("LONG down ahead of CROOK", x.reply(15, 1), 14);
        due("CROOK up ahead of LONG up", x.reply(125, 1), 65);
        due("the one step", x.reply(62, 1), 62);
        Given.text(x, 0, "1+(a=1)*90");
        due("away from it first, the least of all", x.reply(74, 1), 14);
        due("its COST", x.reply(74, 0), 2);
        Given.text(x, 0, "1+(a=1)*90+(a>2)*90");
        due("by steps of 2, over an end", x.reply(74, 0), 91);
        due("the least of 2 down", x.reply(24, 1), 44);
    }

    private static void reply() {
        Checks.sentence("A REPLY to a LINE: what 0 the COST, 1 the LINE behind the first step (-1: it is that"
            + " already). BEYOND. STATE: none is SEEN.");
        FurrowTalk x = Given.furrows(0, 10, 0);
        for (int lc : new int[] {10, 125}) {
            x.redraw(0, lc);
            due("no COST", x.reply(lc, 0), 0);
            due("it is that already", x.reply(lc, 1), -1);
        }
        for (int lc : new int[] {9, 16, 126, 130, 0, -10, MIN, MAX}) {
            due("lc " + lc, x.reply(lc, 0), BEYOND);
        }
        for (int what : new int[] {-1, 2, MIN, MAX}) {
            due("what " + what, x.reply(10, what), BEYOND);
        }
        x.cover(0, 1);
        due("none is SEEN", x.reply(125, 0), STATE);
        due("none is SEEN, what 1", x.reply(125, 1), STATE);
        due("BEYOND first", x.reply(126, 1), BEYOND);
        due("no FURROWS", new FurrowTalk().reply(10, 1), STATE);
    }

    private static int divisor(int a, int b) {
        return b == 0 ? a : divisor(b, a % b);
    }

    private static void oddsOfEachLine() {
        Checks.sentence("ODDS: that one more FURROW (km, of a HAND), with any of the 72 LINES, each as likely,"
            + " would ANSWER the last SEEN one: a fraction in lowest terms (0 is 0 by 1).");
        for (int kind = 0; kind < 7; kind++) {
            FurrowTalk x = Given.furrows(0, 10, 2, 0, 10, 3);
            x.cover(1, 1);
            for (int to = 10; to <= 125; to++) {
                if (Rules.isLine(to)) {
                    x.redraw(0, to);
                    oddsAre(x, kind, to, 2);
                    oddsAre(x, kind, to, 3);
                }
            }
        }
    }

    private static void oddsAre(FurrowTalk x, int kind, int to, int hand) {
        int good = 0;
        for (int lc = 10; lc <= 125; lc++) {
            good += Rules.isLine(lc) && Rules.echoes(kind, lc, to, hand == 2) ? 1 : 0;
        }
        due("above, " + kind + " to " + to, x.odds(10 * kind, hand, 0), good / divisor(72, good));
        due("below, " + kind + " to " + to, x.odds(10 * kind + 9, hand, 1), 72 / divisor(72, good));
    }

    private static void odds() {
        Checks.sentence("ODDS: part 0 above, 1 below the line. BEYOND. STATE: none is SEEN, or there are 12"
            + " FURROWS.");
        FurrowTalk x = Given.furrows(0, 10, 5);
        due("0 above", x.odds(50, 0, 0), 0);
        due("0 is 0 by 1", x.odds(50, 0, 1), 1);
        due("sure, above", x.odds(69, 5, 0), 1);
        due("sure, below", x.odds(69, 5, 1), 1);
        for (int km : new int[] {-1, 70, MIN, MAX}) {
            due("km " + km, x.odds(km, 0, 0), BEYOND);
        }
        for (int hand : new int[] {-1, 6, MIN, MAX}) {
            due("HAND " + hand, x.odds(0, hand, 0), BEYOND);
        }
        for (int part : new int[] {-1, 2, MIN, MAX}) {
            due("part " + part, x.odds(0, 0, part), BEYOND);
        }
        x.cover(0, 1);
        due("none is SEEN", x.odds(0, 0, 0), STATE);
        due("no FURROWS", new FurrowTalk().odds(0, 0, 1), STATE);
        x.cover(0, 0);
        for (int i = 1; i < 11; i++) {
            x.plough(0, 10, 0);
        }
        due("11 FURROWS", x.odds(40, 0, 1), 72);
        x.plough(0, 10, 0);
        due("12 FURROWS", x.odds(40, 0, 1), STATE);
        x.cover(11, 1);
        due("12 FURROWS, one of them COVERED", x.odds(40, 0, 1), STATE);
    }

    private static void fitsFirst() {
        Checks.sentence("FITS: a SHEET tells how LONG those SEEN are: behind how many YEARS (0 .. 60) first that is"
            + " so of all.");
        FurrowTalk x = Given.furrows(0, 10, 0, 0, 110, 0, 0, 120, 0);
        for (int bits = 8; bits <= 32; bits *= 2) {
            Given.row(x, 0, bits, 1, 11, 12);
            due("so it is, 0", x.fits(0), 0);
            Given.row(x, 0, bits, 1, 11);
            due("behind 5", x.fits(0), 5);
            Given.row(x, 0, bits, 1);
            due("behind 10", x.fits(0), 10);
            Given.row(x, 0, bits);
            due("behind 15", x.fits(0), 15);
            Given.row(x, 0, bits, 1, 11, 12, 0);
            due("one too many", x.fits(0), NONE);
            Given.row(x, 0, bits, 1, 12);
            due("not of all", x.fits(0), NONE);
            Given.row(x, 0, bits, 2, 11, 12);
            due("not of the first", x.fits(0), NONE);
            Given.row(x, 0, bits, 1, 11, 11);
            due("not of the last", x.fits(0), NONE);
        }
        Given.row(x, 0, 32, 257, 11, 12);
        due("32 bits are looked at", x.fits(0), NONE);
        Given.row(x, 0, 8, 257, 11, 12);
        due("of 8 bits the lowest", x.fits(0), 0);
    }

    private static void fitsBySixty() {
        FurrowTalk x = Given.furrows(0, 10, 0, 0, 10, 0, 0, 10, 0, 0, 10, 0);
        x.patience(20);
        Given.row(x, 0, 8, 1);
        due("behind 60", x.fits(0), 60);
        Given.row(x, 0, 8, 1, 1);
        due("behind 40", x.fits(0), 40);
        Given.row(x, 0, 8);
        due("behind 80", x.fits(0), NONE);
        x.years(19);
        Given.row(x, 0, 8, 1);
        due("behind 41", x.fits(0), 41);
        Given.row(x, 0, 8);
        due("behind 61", x.fits(0), NONE);
        x.years(1);
        due("behind 60 of a YEAR more", x.fits(0), 60);
    }

    private static void fits() {
        Checks.sentence("FITS, by a SHEET (as many numbers as are SEEN). BEYOND. NONE: the SHEET is missing; not by"
            + " 60.");
        FurrowTalk x = Given.twelve();
        for (int sheet = 0; sheet < 4; sheet++) {
            due("missing " + sheet, x.fits(sheet), NONE);
        }
        Given.row(x, 3, 8, 1, 1, 1, 1, 1, 1, 1, 1, 1, 1, 1, 1);
        due("12 numbers", x.fits(3), 0);
        Given.row(x, 3, 8, 1, 1, 1, 1, 1, 1, 1, 1, 1, 1, 1);
        due("11 numbers", x.fits(3), 5);
        x.sheet(3, 8, 24);
        due("24 numbers", x.fits(3), NONE);
        x.cover(11, 1);
        Given.row(x, 3, 8, 1, 1, 1, 1, 1, 1, 1, 1, 1, 1, 1);
        due("11 are SEEN", x.fits(3), 0);
        for (int sheet : new int[] {-1, 4, MIN, MAX}) {
            due("SHEET " + sheet, x.fits(sheet), BEYOND);
        }
        FurrowTalk y = new FurrowTalk();
        y.sheet(0, 8, 0);
        due("no FURROWS and no numbers", y.fits(0), 0);
        y.sheet(0, 8, 1);
        due("no FURROWS and one number", y.fits(0), NONE);
    }
}
