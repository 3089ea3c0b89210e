/** Each refused call answers its ERROR and changes nothing else: beside it a twin of the object goes without it. */
public final class RefusedTest {
    private static final long BEYOND = Checks.BEYOND;
    private static final long NONE = Checks.NONE;
    private static final long STATE = Checks.STATE;
    private static final long FULL = Checks.FULL;
    private static final long KIND = Checks.KIND;
    private static final long PARTED = Checks.PARTED;

    private interface Call {
        int of(FurrowTalk x);
    }

    private RefusedTest() {
    }

    public static void main(String[] args) {
        Checks.sentence("one that answers an ERROR changes nothing but what told() tells, or where told.");
        for (int state = 0; state < States.ALL; state++) {
            furrows(state);
            texts(state);
            thoughts(state);
            sheets(state);
            moves(state);
        }
        some();
        full();
        lastYear();
        noneSeen();
        nothingMade();
        parted();
        Checks.end();
    }

    private static void due(String what, long got, long want) {
        Checks.due(what, got, want);
    }

    private static void refused(int state, String what, long error, Call call) {
        FurrowTalk x = States.made(state);
        FurrowTalk twin = States.made(state);
        String where = what + " in state " + state;
        due(where, call.of(x), error);
        onlyToldMore(where, x, twin, error);
        alike(where, x, twin);
    }

    private static void onlyToldMore(String where, FurrowTalk x, FurrowTalk twin, long error) {
        for (int k = 1; k <= 6; k++) {
            due(where + ": told(" + k + ")", x.told(k), twin.told(k) + (Checks.LOW - error == k ? 1 : 0));
        }
    }

    private static void same(String where, FurrowTalk x, FurrowTalk twin, Call call) {
        due(where, call.of(x), call.of(twin));
    }

    /** Asks both for all that a later call can tell; in the end this changes both. */
    private static void alike(String where, FurrowTalk x, FurrowTalk twin) {
        standAlike(where, x, twin);
        for (int i = 0; i < 7; i++) {
            int at = i;
            same(where + ": body " + i, x, twin, o -> o.body(at));
        }
        goOnAlike(where, x, twin);
        for (int i = 0; i < 4; i++) {
            int s = i;
            same(where + ": judge " + i, x, twin, o -> o.judge(s));
            same(where + ": lines " + i, x, twin, o -> o.lines(s));
            linesAlike(where + ": lines " + i, x, twin);
        }
        same(where + ": restore", x, twin, o -> o.restore());
        standAlike(where + ": restored", x, twin);
        goOnAlike(where + ": restored", x, twin);
        same(where + ": image", x, twin, o -> o.image());
    }

    private static void standAlike(String where, FurrowTalk x, FurrowTalk twin) {
        for (int i = 0; i < 8; i++) {
            int what = i;
            same(where + ": count " + i, x, twin, o -> o.count(what));
        }
        int furrows = twin.count(0);
        for (int i = 0; i < furrows; i++) {
            int f = i;
            same(where + ": KIND " + i, x, twin, o -> o.furrowIs(f, 0));
            same(where + ": m " + i, x, twin, o -> o.furrowIs(f, 1));
            same(where + ": HAND " + i, x, twin, o -> o.furrowIs(f, 4));
            same(where + ": AGE " + i, x, twin, o -> o.furrowIs(f, 5));
            same(where + ": COVERED " + i, x, twin, o -> o.furrowIs(f, 6));
        }
        linesAlike(where, x, twin);
        for (int i = 0; i < 2; i++) {
            int use = i;
            same(where + ": law " + i, x, twin, o -> o.law(use, 3, 4, 5));
        }
    }

    private static void linesAlike(String where, FurrowTalk x, FurrowTalk twin) {
        int furrows = twin.count(0);
        for (int i = 0; i < furrows; i++) {
            int f = i;
            same(where + ": LONG " + i, x, twin, o -> o.furrowIs(f, 2));
            same(where + ": CROOK " + i, x, twin, o -> o.furrowIs(f, 3));
        }
    }

    /** What waits and what is on THE TAPE is told only by taking it. */
    private static void goOnAlike(String where, FurrowTalk x, FurrowTalk twin) {
        same(where + ": check", x, twin, o -> o.check());
        same(where + ": text", x, twin, o -> o.text(0));
        same(where + ": its law", x, twin, o -> o.law(0, 3, 4, 5));
        same(where + ": untell 0", x, twin, o -> o.untell(0));
        same(where + ": untell 1", x, twin, o -> o.untell(1));
    }

    /** The calls that are BEYOND in each state. */
    private static void furrows(int state) {
        refused(state, "plough of km", BEYOND, x -> x.plough(70, 10, 0));
        refused(state, "plough of lc", BEYOND, x -> x.plough(0, 16, 0));
        refused(state, "plough of a hand", BEYOND, x -> x.plough(0, 10, 6));
        refused(state, "furrowIs of a furrow", BEYOND, x -> x.furrowIs(12, 0));
        refused(state, "furrowIs of what", BEYOND, x -> x.furrowIs(0, 10));
        refused(state, "become of a furrow", BEYOND, x -> x.become(-1, 0));
        refused(state, "become of km", BEYOND, x -> x.become(0, 70));
        refused(state, "as of a furrow", BEYOND, x -> x.as(12, 0));
        refused(state, "as of a kind", BEYOND, x -> x.as(0, 7));
        refused(state, "answers of a furrow", BEYOND, x -> x.answers(12, 0));
        refused(state, "answers to a furrow", BEYOND, x -> x.answers(0, 12));
        refused(state, "answers of one and the same", BEYOND, x -> x.answers(0, 0));
        refused(state, "cover of a furrow", BEYOND, x -> x.cover(12, 1));
        refused(state, "cover of is", BEYOND, x -> x.cover(0, 2));
        refused(state, "redraw of a furrow", BEYOND, x -> x.redraw(12, 55));
        refused(state, "redraw of lc", BEYOND, x -> x.redraw(0, 56));
        refused(state, "patience below", BEYOND, x -> x.patience(0));
        refused(state, "patience above", BEYOND, x -> x.patience(21));
        refused(state, "years below", BEYOND, x -> x.years(0));
        refused(state, "years above", BEYOND, x -> x.years(61));
        refused(state, "loose below", BEYOND, x -> x.loose(0));
        refused(state, "loose above", BEYOND, x -> x.loose(21));
        refused(state, "voice of a furrow", BEYOND, x -> x.voice(12, 0, 1));
        refused(state, "voice of a voice", BEYOND, x -> x.voice(0, 4, 1));
    }

    private static void texts(int state) {
        refused(state, "feed below", BEYOND, x -> x.feed(-1L, 0));
        refused(state, "feed above", BEYOND, x -> x.feed(-1L, 9));
        refused(state, "text", BEYOND, x -> x.text(2));
        refused(state, "text below", BEYOND, x -> x.text(-1));
        refused(state, "untell", BEYOND, x -> x.untell(2));
        refused(state, "law", BEYOND, x -> x.law(2, 0, 0, 0));
        refused(state, "count", BEYOND, x -> x.count(8));
        refused(state, "told below", BEYOND, x -> x.told(0));
        refused(state, "told above", BEYOND, x -> x.told(7));
        refused(state, "body below", NONE, x -> x.body(-1));
        refused(state, "body above", NONE, x -> x.body(30));
    }

    private static void thoughts(int state) {
        refused(state, "talk", BEYOND, x -> x.talk(3));
        refused(state, "meaning below", BEYOND, x -> x.meaning(-2));
        refused(state, "meaning above", BEYOND, x -> x.meaning(6));
        refused(state, "then of n", BEYOND, x -> x.then(61, 0));
        refused(state, "then of what", BEYOND, x -> x.then(60, 2));
        refused(state, "fewest", BEYOND, x -> x.fewest(2));
        refused(state, "reply of lc", BEYOND, x -> x.reply(130, 0));
        refused(state, "reply of what", BEYOND, x -> x.reply(10, 2));
        refused(state, "odds of km", BEYOND, x -> x.odds(70, 0, 0));
        refused(state, "odds of a hand", BEYOND, x -> x.odds(0, 6, 0));
        refused(state, "odds of a part", BEYOND, x -> x.odds(0, 0, 2));
        refused(state, "fits", BEYOND, x -> x.fits(4));
    }

    private static void sheets(int state) {
        refused(state, "sheet of a sheet", BEYOND, x -> x.sheet(4, 8, 1));
        refused(state, "sheet of none", BEYOND, x -> x.sheet(-1, 0, 1));
        refused(state, "sheet of bits", BEYOND, x -> x.sheet(0, 12, 1));
        refused(state, "sheet of n below 0", STATE, x -> x.sheet(0, 8, -1));
        refused(state, "sheet of n", BEYOND, x -> x.sheet(0, 8, 25));
        refused(state, "put of a sheet", BEYOND, x -> x.put(4, 0, 55));
        refused(state, "lines", BEYOND, x -> x.lines(4));
        refused(state, "judge", BEYOND, x -> x.judge(4));
    }

    private static void moves(int state) {
        refused(state, "move of a sheet", BEYOND, x -> x.move(4, 0, 0, 0, 1));
        refused(state, "move to a sheet", BEYOND, x -> x.move(0, 0, 4, 0, 1));
    }

    private static void some() {
        int some = States.SOME;
        refused(some, "as of another KIND", KIND, x -> x.as(1, 2));
        refused(some, "as of one above", KIND, x -> x.as(0, 1));
        refused(some, "body behind the last", NONE, x -> x.body(6));
        refused(some, "fits, missing", NONE, x -> x.fits(3));
        refused(some, "fits, not by 60", NONE, x -> x.fits(2));
        refused(some, "put, missing", NONE, x -> x.put(3, 0, 55));
        refused(some, "put of a number", BEYOND, x -> x.put(0, 4, 55));
        refused(some, "put of a number below", BEYOND, x -> x.put(0, -1, 55));
        refused(some, "lines, missing", NONE, x -> x.lines(3));
        refused(some, "judge, missing", NONE, x -> x.judge(3));
        refused(some, "move, missing", NONE, x -> x.move(3, 0, 0, 0, 1));
        refused(some, "move to a missing one", NONE, x -> x.move(0, 0, 3, 0, 1));
        refused(some, "move, unlike bits", KIND, x -> x.move(1, 0, 0, 0, 1));
        refused(some, "move, too many", BEYOND, x -> x.move(0, 0, 0, 1, 4));
        refused(some, "move, below 0", BEYOND, x -> x.move(0, -1, 0, 0, 2));
        refused(some, "move to below 0", BEYOND, x -> x.move(0, 1, 0, -1, 2));
        refused(some, "move of n below 0", BEYOND, x -> x.move(0, 1, 0, 0, -1));
    }

    private static void full() {
        refused(States.FULL, "plough", FULL, x -> x.plough(0, 10, 0));
        refused(States.FULL, "feed", FULL, x -> x.feed('1', 1));
        refused(States.FULL, "feed of 8", FULL, x -> x.feed(-1L, 8));
        refused(States.FULL, "tell", FULL, x -> x.tell(0));
        refused(States.FULL, "odds", STATE, x -> x.odds(0, 0, 0));
        refused(States.FULL, "move", BEYOND, x -> x.move(0, 0, 3, 13, 12));
        refused(States.FULL, "put", BEYOND, x -> x.put(3, 24, 1));
        refused(States.FULL, "restore", NONE, x -> x.restore());
    }

    private static void lastYear() {
        refused(States.LAST_YEAR, "years", STATE, x -> x.years(1));
        refused(States.LAST_YEAR, "years of 60", STATE, x -> x.years(60));
        refused(States.LAST_YEAR, "loose", STATE, x -> x.loose(1));
        refused(States.LAST_YEAR, "loose of 20", STATE, x -> x.loose(20));
    }

    private static void noneSeen() {
        refused(States.NONE_SEEN, "reply", STATE, x -> x.reply(10, 0));
        refused(States.NONE_SEEN, "reply, the LINE", STATE, x -> x.reply(10, 1));
        refused(States.NONE_SEEN, "odds", STATE, x -> x.odds(0, 0, 0));
        refused(States.NONE_SEEN, "fits", NONE, x -> x.fits(0));
    }

    private static void nothingMade() {
        refused(States.NEW, "restore", NONE, x -> x.restore());
        refused(States.NEW, "reply", STATE, x -> x.reply(10, 0));
        refused(States.NEW, "odds", STATE, x -> x.odds(0, 0, 0));
        refused(States.NEW, "body", NONE, x -> x.body(0));
        for (int i = 0; i < 4; i++) {
            int s = i;
            refused(States.NEW, "fits " + i, NONE, x -> x.fits(s));
            refused(States.NEW, "lines " + i, NONE, x -> x.lines(s));
            refused(States.NEW, "judge " + i, NONE, x -> x.judge(s));
            refused(States.NEW, "put " + i, NONE, x -> x.put(s, 0, 1));
            refused(States.NEW, "move " + i, NONE, x -> x.move(s, 0, 3 - s, 0, 0));
        }
    }

    /** THE TRACE is told to be of this voice(), too; behind one that both speak all is alike again. */
    private static void parted() {
        FurrowTalk x = States.made(States.SOME);
        FurrowTalk twin = States.made(States.SOME);
        due("PARTED", x.voice(0, 3, 7), PARTED);
        due("THE TRACE of it", x.count(6), 1);
        onlyToldMore("PARTED", x, twin, PARTED);
        same("PARTED: voice", x, twin, o -> o.voice(3, 1, 7));
        alike("PARTED", x, twin);
    }
}
