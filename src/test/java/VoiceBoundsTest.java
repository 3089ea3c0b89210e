/** Sentences that name a boundary: of the VOICES in Terms 4, and of promises 24 and 25. */
public final class VoiceBoundsTest {
    private static final long BEYOND = Checks.BEYOND;
    private static final long NONE = Checks.NONE;
    private static final long PARTED = Checks.PARTED;
    private static final int MIN = Integer.MIN_VALUE;
    private static final int MAX = Integer.MAX_VALUE;
    private static final int QUARTER = 1 << 30;
    private static final int SAYS = 0;
    private static final int ASKS = 1;
    private static final int HUMS = 2;
    private static final int PARTS = 3;

    private VoiceBoundsTest() {
    }

    public static void main(String[] args) {
        wraps();
        wrapsOfOaths();
        wrapsOfOthers();
        theNumber();
        parts();
        partsOfKinds();
        partsOfOaths();
        supers();
        trace();
        traceOfEach();
        voice();
        body();
        Checks.end();
    }

    private static void due(String what, long got, long want) {
        Checks.due(what, got, want);
    }

    /** A VOICE of FURROW 0. */
    private static void said(int km, int voice, int x, long want) {
        FurrowTalk talk = Given.furrows(km, 10, 0);
        due(km + ", voice " + voice + ", " + x, talk.voice(0, voice, x), want);
        for (int k = 1; k <= 6; k++) {
            due("no ERROR " + k, talk.told(k), 0);
        }
    }

    private static void wraps() {
        Checks.sentence("VOICES of a FURROW, with a number x (ints that wrap)");
        said(0, SAYS, (int) BEYOND, BEYOND);
        said(0, SAYS, (int) PARTED, PARTED);
        said(1, PARTS, (int) PARTED, PARTED);
        Checks.sentence("10 says: x + k.");
        due("MAX and 1", Given.furrows(0, 10, 0, 0, 10, 0).voice(1, SAYS, MAX), MIN);
        due("MAX and 11", Given.twelve().voice(11, SAYS, MAX), MIN + 10);
        said(0, SAYS, MAX, MAX);
        said(0, SAYS, MIN, MIN);
        Checks.sentence("11 asks: says(x) * 2.");
        said(0, ASKS, MAX, -2);
        said(0, ASKS, QUARTER - 1, MAX - 1);
        said(0, ASKS, QUARTER, MIN);
        said(0, ASKS, MIN, 0);
        Checks.sentence("12 hums: asks(x) - m.");
        said(0, HUMS, -QUARTER, MIN);
        said(1, HUMS, -QUARTER, MAX);
        said(9, HUMS, -QUARTER, MAX - 8);
    }

    private static void wrapsOfOaths() {
        Checks.sentence("20 says: super.says(x) - 4.");
        said(10, SAYS, MIN, MAX - 3);
        said(10, SAYS, MIN + 3, MAX);
        said(10, SAYS, MIN + 4, MIN);
        Checks.sentence("50 says: super.says(x) * 3.");
        said(40, SAYS, MAX, 2147483633);
        said(40, SAYS, MIN, 2147483636);
        Checks.sentence("51 hums: super.hums(x) ^ k.");
        FurrowTalk x = Given.twelve();
        x.become(11, 40);
        due("42 ^ 11", x.voice(11, HUMS, 0), 33);
        due("-6 ^ 11", x.voice(11, HUMS, -8), -15);
        said(40, HUMS, 5, 6);
    }

    private static void wrapsOfOthers() {
        Checks.sentence("30 asks: 0 - super.asks(x).");
        said(20, ASKS, QUARTER, MIN);
        said(20, ASKS, -QUARTER, MIN);
        said(20, ASKS, MIN, 0);
        said(20, ASKS, MAX, 2);
        Checks.sentence("40 hums: super.hums(x / 2).");
        said(30, HUMS, MIN, MIN);
        said(31, HUMS, MIN, MAX);
        said(39, HUMS, MAX, MAX - 10);
        said(30, HUMS, -1, 0);
        Checks.sentence("60 asks: super.asks(x + 1).");
        said(50, ASKS, MAX, 0);
        said(50, ASKS, QUARTER - 1, MIN);
        said(50, ASKS, -1, 0);
        Checks.sentence("70 says: 9.");
        said(60, SAYS, MIN, 9);
        said(69, SAYS, MAX, 9);
        Checks.sentence("71 asks: super.asks(x) + m.");
        said(60, ASKS, MIN, 18);
        said(69, ASKS, MAX, 27);
        said(69, HUMS, MAX, 18);
    }

    private static void theNumber() {
        Checks.sentence("k is the number, m as told");
        FurrowTalk x = Given.twelve();
        for (int i = 0; i < 12; i++) {
            x.become(i, 9);
            due("k " + i, x.voice(i, SAYS, 0), i);
            due("k " + i + ", m 9", x.voice(i, HUMS, 0), 2 * i - 9);
            x.become(i, 40);
            due("k " + i + " of a SWORN", x.voice(i, HUMS, 0), 6 * (i - 4) ^ i);
        }
    }

    private static void parts() {
        Checks.sentence("13 parts: x by (m - k), cut (PARTED if that is 0; that is all that voice() answers then).");
        for (int m = 0; m <= 9; m++) {
            FurrowTalk x = Given.twelve();
            for (int k = 0; k < 12; k++) {
                x.become(k, m);
                int by = m - k;
                due("99 by " + by, x.voice(k, PARTS, 99), by == 0 ? PARTED : 99 / by);
                due("-99 by " + by, x.voice(k, PARTS, -99), by == 0 ? PARTED : -99 / by);
                due("0 by " + by, x.voice(k, PARTS, 0), by == 0 ? PARTED : 0);
            }
            due("told", x.told(6), 3);
        }
        FurrowTalk y = Given.furrows(0, 10, 0, 0, 10, 0);
        due("MIN by -1", y.voice(1, PARTS, MIN), MIN);
        due("MAX by -1", y.voice(1, PARTS, MAX), -MAX);
        due("MIN by 0", y.voice(0, PARTS, MIN), PARTED);
        due("the other VOICES are not PARTED", y.voice(0, HUMS, 7), 14);
        due("told once", y.told(6), 1);
    }

    private static void partsOfKinds() {
        for (int kind = 0; kind < 7; kind++) {
            FurrowTalk x = Given.furrows(0, 10, 0, 10 * kind + 1, 10, 0);
            due("PARTED, KIND " + kind, x.voice(1, PARTS, 5), PARTED);
            due("told", x.told(6), 1);
            for (int voice = 0; voice < PARTS; voice++) {
                due("not PARTED, KIND " + kind, x.voice(1, voice, 5) == PARTED ? 1 : 0, 0);
            }
            due("told still", x.told(6), 1);
        }
    }

    private static void partsOfOaths() {
        Checks.sentence("21 parts: super.parts(x) + asks(1).");
        FurrowTalk x = Given.furrows(11, 10, 0, 10, 10, 0, 41, 10, 0);
        due("an OATH, by 1", x.voice(0, PARTS, 7), 7 + 2 * (1 - 4));
        due("an OATH, by -1", x.voice(1, PARTS, 7), -7 + 2 * (2 - 4));
        due("a SWORN, by -1", x.voice(2, PARTS, 7), -7 + 2 * 3 * (3 - 4));
        x.become(0, 10);
        due("an OATH by 0", x.voice(0, PARTS, 7), PARTED);
        x.become(2, 42);
        due("a SWORN by 0", x.voice(2, PARTS, 7), PARTED);
        said(11, PARTS, MIN, MAX - 5);
        said(11, PARTS, MIN + 6, MIN);
    }

    /** All VOICES of 10 for the KINDS in order, of FURROW 0 with m 3. */
    private static void supers() {
        Checks.sentence("says(..) is the BODY of its KIND, or of the next KIND above that has one; super.says(..)"
            + " that from the KIND above the BODY's on.");
        int[][] want = {{10, 20, 17, 3}, {6, 12, 9, 3 - 6}, {10, -20, -23, 3}, {10, 20, 7, 3}, {18, 36, 33, 3 - 18},
            {10, -22, -25, 3}, {9, 21, 18, 3}};
        for (int kind = 0; kind < 7; kind++) {
            for (int voice = 0; voice < 4; voice++) {
                said(10 * kind + 3, voice, 10, want[kind][voice]);
            }
        }
    }

    private static void traceIs(FurrowTalk x, String what, String want) {
        String[] bodies = want.isEmpty() ? new String[0] : want.split(" ");
        due(what + ", how many", x.count(6), bodies.length);
        for (int i = 0; i < bodies.length; i++) {
            due(what + ", " + i, x.body(i), Integer.parseInt(bodies[i]));
        }
        due(what + ", behind the last", x.body(bodies.length), NONE);
    }

    private static void trace() {
        Checks.sentence("THE TRACE: the numbers of BODIES of the latest voice(), as they began (what stands left is"
            + " worked out first), the first 30.");
        FurrowTalk x = Given.furrows(41, 10, 0, 60, 10, 0, 12, 10, 0);
        traceIs(x, "at first", "");
        x.voice(0, PARTS, 7);
        traceIs(x, "the longest", "21 13 11 50 20 10");
        x.voice(1, SAYS, 7);
        traceIs(x, "a short one behind it", "70");
        x.voice(0, HUMS, 7);
        traceIs(x, "a long one again", "51 12 11 50 20 10");
        x.voice(2, PARTS, 7);
        traceIs(x, "PARTED", "21 13");
        x.voice(0, 4, 7);
        traceIs(x, "no such VOICE", "21 13");
        x.voice(3, PARTS, 7);
        traceIs(x, "no such FURROW", "21 13");
        x.voice(1, ASKS, 7);
        traceIs(x, "another one", "71 11 70");
        x.image();
        x.voice(1, SAYS, 7);
        x.restore();
        traceIs(x, "an IMAGE doesn't hold it", "70");
    }

    private static void traceOfEach() {
        String[][] want = {
            {"10", "11 10", "12 11 10", "13"},
            {"20 10", "11 20 10", "12 11 20 10", "21 13 11 20 10"},
            {"10", "30 11 10", "12 30 11 10", "13"},
            {"10", "11 10", "40 12 11 10", "13"},
            {"50 20 10", "11 50 20 10", "51 12 11 50 20 10", "21 13 11 50 20 10"},
            {"10", "60 30 11 10", "12 60 30 11 10", "13"},
            {"70", "71 11 70", "12 71 11 70", "13"}};
        for (int kind = 0; kind < 7; kind++) {
            FurrowTalk x = Given.furrows(10 * kind + 3, 10, 0);
            for (int voice = 0; voice < 4; voice++) {
                x.voice(0, voice, 10);
                traceIs(x, "KIND " + kind + ", VOICE " + voice, want[kind][voice]);
            }
        }
    }

    private static void voice() {
        Checks.sentence("A VOICE of a FURROW: any number. BEYOND. PARTED.");
        FurrowTalk x = Given.furrows(0, 10, 0);
        for (int furrow : new int[] {-1, 1, 11, 12, MIN, MAX}) {
            due("FURROW " + furrow, x.voice(furrow, SAYS, 0), BEYOND);
        }
        for (int voice : new int[] {-1, 4, MIN, MAX}) {
            due("VOICE " + voice, x.voice(0, voice, 0), BEYOND);
        }
        due("a COVERED one", x.cover(0, 1), 0);
        due("speaks, too", x.voice(0, ASKS, 4), 8);
        due("no FURROWS", new FurrowTalk().voice(0, SAYS, 0), BEYOND);
    }

    private static void body() {
        Checks.sentence("THE TRACE's i-th. NONE: there is none such.");
        FurrowTalk x = Given.furrows(1, 10, 0);
        due("none at first", x.body(0), NONE);
        x.voice(0, HUMS, 0);
        due("the first", x.body(0), 12);
        due("the last", x.body(2), 10);
        for (int i : new int[] {3, 29, 30, 31, -1, MIN, MAX}) {
            due("i " + i, x.body(i), NONE);
        }
    }
}
