/** Sentences that name a boundary: of Terms 2, and of promises 10 to 13. */
public final class TextBoundsTest {
    private static final long BEYOND = Checks.BEYOND;
    private static final int MIN = Integer.MIN_VALUE;
    private static final int MAX = Integer.MAX_VALUE;
    private static final String DIGITS = "0123456789";
    private static final String SIGNS = "|&<=>+-*/%";
    private static final String SIGNS_BUT_COMPARING = "|&+-*/%";
    private static final String SIXTY = "a+a+a+a+a+a+a+a+a+a+a+a+a+a+a+a+a+a+a+a+a+a+a+a+a+a+a+a+a+11";

    private TextBoundsTest() {
    }

    public static void main(String[] args) {
        tape();
        grammar();
        comparing();
        numbers();
        noBlanks();
        open();
        openAgain();
        intsWrap();
        byNothing();
        truth();
        faultOfEachByte();
        faultOfEachByteOpen();
        faultAtTheEnds();
        cost();
        costWithoutText();
        sense();
        senseWithoutText();
        feed();
        feedFull();
        text();
        textInPlace();
        textOfUse();
        textOfFault();
        untell();
        law();
        Checks.end();
    }

    private static void due(String what, long got, long want) {
        Checks.due(what, got, want);
    }

    /** What text() answers of these bytes on a new object. */
    private static void told(int use, String bytes, int want) {
        due("text of " + bytes, Given.text(new FurrowTalk(), use, bytes), want);
    }

    /** What a TEXT of SENSE gives, with l 7, c -3, d 0. */
    private static void value(String bytes, int want) {
        FurrowTalk x = new FurrowTalk();
        due("text of " + bytes, Given.text(x, 1, bytes), 1);
        due("value of " + bytes, x.law(1, 7, -3, 0), want);
    }

    private static void tape() {
        Checks.sentence("TEXTS are read from THE TAPE (bytes, at most 60)");
        FurrowTalk x = new FurrowTalk();
        Given.feed(x, SIXTY);
        due("60 bytes", x.count(4), 60);
        due("the 61st", x.feed('1', 1), Checks.FULL);
        due("they are a TEXT", x.text(0), 1);
        due("of all of them", x.law(0, 2, 0, 0), 69);
    }

    private static void grammar() {
        Checks.sentence("T: A { | A }. A: B { & B }. B: S, or S < S, S = S, S > S. S: P { + P, - P }. P: Q { * Q, /"
            + " Q, % Q }.");
        value("1+2*3-4/2%3", 5);
        value("2*3+4*5", 26);
        value("9-4-3-2", 0);
        value("64/4/2/2", 4);
        value("50%30%7", 6);
        value("3*5%4*2", 6);
        value("1+1=2&3>2|0", 1);
        value("0&0|1", 1);
        value("1|0&0", 1);
        value("0|0|0|1", 1);
        value("1&1&1&0", 0);
        value("2=2", 1);
        value("1+2<2+1", 0);
        value("!d+1", 2);
        value("!(d+1)", 0);
        value("((((7))))*2", 14);
        value("1+1+1+1+1+1+1+1+1+1+1+1+1+1+1+1+1+1+1+1+1+1+1+1+1+1+1+1+1+1", 30);
    }

    private static void comparing() {
        Checks.sentence("B: S, or S < S, S = S, S > S.");
        for (char sign : "<=>".toCharArray()) {
            for (char second : "<=>".toCharArray()) {
                told(0, "a" + sign + "b" + second + "k", -13);
                told(0, "(a" + sign + "b)" + second + "k", 1);
                told(0, "a" + sign + "(b" + second + "k)", 1);
                told(0, "a" + sign + "b&b" + second + "k", 1);
                told(0, "a" + sign + "b|b" + second + "k", 1);
                told(0, "a" + sign + "b+b" + second + "k", -15);
                told(0, "a" + sign + second, -12);
            }
            told(0, "a" + sign, -12);
            told(0, sign + "a", -10);
        }
    }

    private static void numbers() {
        Checks.sentence("a NUMBER of 1 to 4 digits");
        told(0, "1", 1);
        told(0, "12", 1);
        told(0, "123", 1);
        told(0, "1234", 1);
        told(0, "12345", -14);
        told(0, "00000", -14);
        told(0, "a+12345", -16);
        told(0, "1a", -11);
        told(0, "a1", -11);
        value("9", 9);
        value("0", 0);
        value("99", 99);
        value("0098", 98);
        value("9999-9998", 1);
        value("9999-999*10", 9);
        value("0000", 0);
    }

    private static void noBlanks() {
        Checks.sentence("No blanks.");
        told(0, " a", -10);
        told(0, "a ", -11);
        told(0, "a +b", -11);
        told(0, "a+ b", -12);
        told(0, "( a)", -11);
        told(0, "1 2", -11);
        told(0, "! a", -11);
        told(0, "a\t", -11);
        told(0, "a\n", -11);
        told(0, "a\0", -11);
    }

    private static void open() {
        Checks.sentence("At most 5 of ! and ( are open at once.");
        told(0, "!!!!!a", 1);
        told(0, "!!!!!!a", -15);
        told(0, "(((((a)))))", 1);
        told(0, "((((((a))))))", -15);
        told(0, "!(!(!a))", 1);
        told(0, "!(!(!(a)))", -15);
        told(0, "(!(!(a)))", 1);
        told(0, "(!(!(!a)))", -15);
        told(0, "((((!a))))", 1);
        told(0, "((((!!a))))", -15);
        told(0, "!((((a))))", 1);
        told(0, "!(((((a)))))", -15);
        value("!!!!!l", 0);
        value("!!!!!d", 1);
        value("(((((l)))))", 7);
    }

    private static void openAgain() {
        told(0, "!!!!!a+!!!!!b", 1);
        told(0, "(((((a)))))+(((((b)))))", 1);
        told(0, "(((((a)))))+((((((b))))))", -27);
        told(0, "((((!a+!b))))", 1);
        told(0, "((((!a+!!b))))", -18);
        told(0, "((((a)+((b)))))", 1);
        told(0, "((((a)+(((b))))))", -19);
        told(0, "(((a)+((b))))", 1);
        told(0, "!((((a))))+!((((b))))", 1);
        told(0, "((((!(a)))))", -15);
        told(0, "(((!(a)+!(b))))", 1);
        told(0, "(((!(a)+!((b)))))", -20);
    }

    private static void pair(String bytes, int a, int b, int want) {
        FurrowTalk x = new FurrowTalk();
        due("text of " + bytes, Given.text(x, 1, bytes), 1);
        due(bytes + " of " + a + ", " + b, x.law(1, a, b, 0), want);
    }

    private static void intsWrap() {
        Checks.sentence("Ints that wrap; / cut, % the rest that it leaves");
        pair("l+c", MAX, 1, -99);
        pair("l+c", MIN, -1, 99);
        pair("l+c+c", MAX, MAX, 99);
        pair("l+c", MAX, MIN, -1);
        pair("l-c", MIN, 1, 99);
        pair("l-c", 0, MIN, -99);
        pair("l-c", MAX, -1, -99);
        pair("l*c", MAX, MAX, 1);
        pair("l*c", MIN, -1, -99);
        pair("l*c", 65536, 65536, 0);
        pair("l*c", 65536, 32768, -99);
        pair("l*c", 46341, 46341, -99);
        pair("9999*9999*22", 0, 0, -99);
        pair("9999*9999*43", 0, 0, 99);
        pair("l/c", MIN, -1, -99);
        pair("l%c", MIN, -1, 0);
        pair("l/c", MIN, MIN, 1);
        pair("l/c", MAX, MIN, 0);
        pair("l%c+1", MAX, MIN, -99);
        pair("l/c", -7, 2, -3);
        pair("l%c", -7, 2, -1);
        pair("l/c", 7, -2, -3);
        pair("l%c", 7, -2, 1);
        pair("l%c", -7, -2, -1);
        pair("l/c", 1, 2, 0);
        pair("l%c", 1, 2, 1);
    }

    private static void byNothing() {
        Checks.sentence("both by 0 are 0");
        pair("l/c", 7, 0, 0);
        pair("l%c", 7, 0, 0);
        pair("l/c", 0, 0, 0);
        pair("l%c", 0, 0, 0);
        pair("l/c", MIN, 0, 0);
        pair("l%c", MIN, 0, 0);
        pair("l/c+5", 7, 0, 5);
        pair("5+l%c*3", 7, 0, 5);
        pair("l/(c-3)", 7, 3, 0);
        pair("l/0", 7, 3, 0);
        pair("l%0", 7, 3, 0);
    }

    private static void truth() {
        Checks.sentence("| & < = > ! are 1 or 0, what is not 0 being true; all is worked out.");
        pair("l|c", 0, 0, 0);
        pair("l|c", 0, -1, 1);
        pair("l|c", MIN, 0, 1);
        pair("l|c", 6, 9, 1);
        pair("l&c", 6, 9, 1);
        pair("l&c", 1, 2, 1);
        pair("l&c", MIN, MAX, 1);
        pair("l&c", 5, 0, 0);
        pair("l&c", 0, 5, 0);
        pair("!l", 0, 0, 1);
        pair("!l", 1, 0, 0);
        pair("!l", -1, 0, 0);
        pair("!l", MIN, 0, 0);
        pair("!!l", 5, 0, 1);
        pair("l<c", MIN, MAX, 1);
        pair("l<c", MAX, MIN, 0);
        pair("l>c", MAX, MIN, 1);
        pair("l<c", 3, 3, 0);
        pair("l>c", 3, 3, 0);
        pair("l=c", 3, 3, 1);
        pair("l=c", MIN, MAX, 0);
        pair("l|c/0", 1, 5, 1);
        pair("l&c%0", 0, 5, 0);
    }

    private static String operands(String names) {
        return DIGITS + names + "!(";
    }

    /** Behind a prefix, each byte of 256: it ends a TEXT, or a TEXT goes on with it, or it is the FAULT. */
    private static void bytesBehind(int use, String prefix, String ending, String goingOn) {
        String names = use == 0 ? "abk" : "lcd";
        String told = use == 0 ? prefix : prefix.replace('a', 'l').replace('b', 'c').replace('k', 'd');
        String endings = ending.replace("NAMES", names);
        for (char b = 0; b < 256; b++) {
            long want = -10 - told.length();
            if (endings.indexOf(b) >= 0) {
                want = 1;
            } else if (goingOn.replace("NAMES", names).indexOf(b) >= 0) {
                want--;
            }
            due("byte " + (int) b + " behind " + told, Given.text(new FurrowTalk(), use, told + b), want);
        }
    }

    private static void faultOfEachByte() {
        Checks.sentence("FAULT: the place of the first byte with which no TEXT goes on");
        for (int use = 0; use < 2; use++) {
            bytesBehind(use, "", DIGITS + "NAMES", "!(");
            bytesBehind(use, "a", "", SIGNS);
            bytesBehind(use, "1", DIGITS, SIGNS);
            bytesBehind(use, "123", DIGITS, SIGNS);
            bytesBehind(use, "1234", "", SIGNS);
            for (int i = 0; i < SIGNS.length(); i++) {
                bytesBehind(use, "a" + SIGNS.charAt(i), DIGITS + "NAMES", "!(");
            }
            bytesBehind(use, "a<b", "", SIGNS_BUT_COMPARING);
            bytesBehind(use, "a=b", "", SIGNS_BUT_COMPARING);
            bytesBehind(use, "a>b*k", "", SIGNS_BUT_COMPARING);
            bytesBehind(use, "a<b+12", DIGITS, SIGNS_BUT_COMPARING);
            bytesBehind(use, "a<b&k", "", SIGNS);
            bytesBehind(use, "a<b|k", "", SIGNS);
        }
    }

    private static void faultOfEachByteOpen() {
        for (int use = 0; use < 2; use++) {
            bytesBehind(use, "(", "", operands("NAMES"));
            bytesBehind(use, "(a", ")", SIGNS);
            bytesBehind(use, "(a<b", ")", SIGNS_BUT_COMPARING);
            bytesBehind(use, "(a<b)", "", SIGNS);
            bytesBehind(use, "(a)", "", SIGNS);
            bytesBehind(use, "a<(b<k", ")", SIGNS_BUT_COMPARING);
            bytesBehind(use, "a<(b<k)", "", SIGNS_BUT_COMPARING);
            bytesBehind(use, "!a", "", SIGNS);
            bytesBehind(use, "!", DIGITS + "NAMES", "!(");
            bytesBehind(use, "!!!!!", DIGITS + "NAMES", "");
            bytesBehind(use, "!!!!", DIGITS + "NAMES", "!(");
            bytesBehind(use, "(((((", "", DIGITS + "NAMES");
            bytesBehind(use, "((((", "", operands("NAMES"));
            bytesBehind(use, "(((((a", "", SIGNS + ")");
            bytesBehind(use, "((((!a+", "", operands("NAMES"));
            bytesBehind(use, "(((((a+", "", DIGITS + "NAMES");
        }
    }

    private static void faultAtTheEnds() {
        Checks.sentence("how many there are, if it ends too early.");
        told(0, "", -10);
        told(0, "a+", -12);
        told(0, "(", -11);
        told(0, "!", -11);
        told(0, "((a)", -14);
        told(0, "a<", -12);
        told(0, SIXTY, 1);
        told(0, SIXTY.substring(0, 59), 1);
        told(0, SIXTY.substring(0, 58), -68);
        told(0, SIXTY.substring(0, 59) + "+", -70);
        told(0, SIXTY.substring(0, 59) + "(", -69);
        told(0, SIXTY.substring(0, 58) + "((", -70);
        told(0, SIXTY.substring(0, 58) + "()", -69);
        told(0, "x" + SIXTY.substring(1), -10);
        told(0, SIXTY.substring(0, 58) + "1x", -69);
    }

    private static void held(int use, String bytes, int a, int want) {
        FurrowTalk x = new FurrowTalk();
        due("text of " + bytes, Given.text(x, use, bytes), 1);
        due("USE " + use + " of " + a, x.law(use, a, 0, 0), want);
    }

    private static void cost() {
        Checks.sentence("0 COST: NAMES a by how much LONG is other, b by how much CROOK is, k PATIENCE; held within"
            + " 1 .. 99");
        int[] given = {MIN, -1, 0, 1, 2, 98, 99, 100, MAX};
        int[] want = {1, 1, 1, 1, 2, 98, 99, 99, 99};
        for (int i = 0; i < given.length; i++) {
            held(0, "a", given[i], want[i]);
        }
        FurrowTalk x = Given.furrows(0, 10, 0);
        Given.text(x, 0, "a*10+b");
        due("a is 11 at most", x.reply(120, 0), 99);
        Given.text(x, 0, "a*6+b");
        due("a is 1 at least", x.reply(20, 0), 6);
        due("by each 1", x.reply(120, 0), 66);
        Given.text(x, 0, "b*7+a");
        due("b is 5 at most", x.reply(15, 0), 35);
        x.redraw(0, 125);
        due("by how much, down", x.reply(120, 0), 35);
        Given.text(x, 0, "k");
        x.patience(1);
        due("the least PATIENCE", x.reply(124, 0), 1);
        x.patience(20);
        due("the greatest PATIENCE", x.reply(124, 0), 20);
    }

    private static void costWithoutText() {
        Checks.sentence("without a TEXT a+b.");
        FurrowTalk x = new FurrowTalk();
        due("1 and 0", x.law(0, 1, 0, 9), 1);
        due("0 and 2", x.law(0, 0, 2, 9), 2);
        due("11 and 5", x.law(0, 11, 5, 9), 16);
        due("49 and 50", x.law(0, 49, 50, 9), 99);
        due("50 and 50", x.law(0, 50, 50, 9), 99);
        due("0 and 0", x.law(0, 0, 0, 9), 1);
        due("MAX and 1", x.law(0, MAX, 1, 9), 1);
        due("MIN and -1", x.law(0, MIN, -1, 9), 99);
        due("MIN and MIN", x.law(0, MIN, MIN, 9), 1);
    }

    private static void sense() {
        Checks.sentence("1 SENSE: NAMES l LONG, c CROOK, d DEPTH; held within -99 .. 99");
        int[] given = {MIN, -100, -99, -98, -1, 0, 1, 98, 99, 100, MAX};
        int[] want = {-99, -99, -99, -98, -1, 0, 1, 98, 99, 99, 99};
        for (int i = 0; i < given.length; i++) {
            held(1, "l", given[i], want[i]);
        }
        FurrowTalk x = Given.furrows(50, 125, 0, 69, 120, 0);
        Given.text(x, 1, "d");
        due("DEPTH below 0", x.furrowIs(0, 8), -1);
        due("the greatest DEPTH", x.furrowIs(1, 8), 21);
        Given.text(x, 1, "l*8+c");
        due("99 is not", x.furrowIs(1, 8), 96);
        due("101 is held", x.furrowIs(0, 8), 99);
        Given.text(x, 1, "0-l*8-c");
        due("-101 is held", x.furrowIs(0, 8), -99);
    }

    private static void senseWithoutText() {
        Checks.sentence("without a TEXT l*c (ints that wrap; held likewise).");
        FurrowTalk x = Given.furrows(9, 125, 0, 9, 120, 0, 9, 10, 0);
        due("the greatest", x.furrowIs(0, 8), 60);
        due("CROOK 0", x.furrowIs(1, 8), 0);
        due("the least", x.furrowIs(2, 8), 0);
        due("9 by 11", x.law(1, 9, 11, 5), 99);
        due("10 by 10", x.law(1, 10, 10, 5), 99);
        due("9 by -11", x.law(1, 9, -11, 5), -99);
        due("10 by -10", x.law(1, 10, -10, 5), -99);
        due("MAX by MAX", x.law(1, MAX, MAX, 5), 1);
        due("MIN by -1", x.law(1, MIN, -1, 5), -99);
        due("65536 by 65536", x.law(1, 65536, 65536, 5), 0);
        due("46341 by 46341", x.law(1, 46341, 46341, 5), -99);
    }

    private static void feed() {
        Checks.sentence("The n lowest bytes (1 .. 8) of a word, the lowest first, come to THE TAPE: how many there"
            + " are. BEYOND.");
        long word = 0x39312D6B2A622B61L;
        long[] want = {1, -12, 1, -14, 1, -16, 1, 1};
        long[] law = {2, 0, 5, 0, 17, 0, 16, 1};
        for (int n = 1; n <= 8; n++) {
            FurrowTalk x = new FurrowTalk();
            due("n " + n, x.feed(word, n), n);
            due("the TEXT of " + n, x.text(0), want[n - 1]);
            if (want[n - 1] == 1) {
                due("the law of " + n, x.law(0, 2, 3, 5), law[n - 1]);
            }
        }
        FurrowTalk y = new FurrowTalk();
        for (int n : new int[] {0, 9, -1, -8, 64, MIN, MAX}) {
            due("n " + n, y.feed(word, n), BEYOND);
        }
        due("none came", y.count(4), 0);
        due("the least word", y.feed(Long.MIN_VALUE, 8), 8);
        due("it is no TEXT", y.text(0), -10);
        due("a sign in the highest byte", y.feed(0xB130303030303030L, 8), 8);
        due("it is no digit", y.text(0), -14);
        due("bytes above the n lowest don't come", y.feed(-256L + '7', 1), 1);
        due("they are not in the TEXT", y.text(0), 1);
    }

    private static void feedFull() {
        Checks.sentence("FULL.");
        for (int n = 1; n <= 8; n++) {
            FurrowTalk x = new FurrowTalk();
            for (int i = 0; i < 60 - n; i++) {
                due("byte", x.feed('1', 1), i + 1);
            }
            for (int more = n + 1; more <= 8; more++) {
                due(more + " more", x.feed(0, more), Checks.FULL);
            }
            due("nothing came", x.count(4), 60 - n);
            due("just " + n + " more", x.feed(0, n), 60);
            due("FULL", x.feed(0, 1), Checks.FULL);
            due("BEYOND first", x.feed(0, 9), BEYOND);
            x.text(0);
            due("it is empty then", x.feed(0, 8), 8);
        }
    }

    private static void text() {
        Checks.sentence("BEYOND (THE TAPE stays).");
        FurrowTalk x = new FurrowTalk();
        Given.feed(x, "a*7");
        for (int use : new int[] {-1, 2, MIN, MAX}) {
            due("use " + use, x.text(use), BEYOND);
            due("THE TAPE stays", x.count(4), 3);
        }
        due("it is a TEXT still", x.text(0), 1);
        due("of these bytes", x.law(0, 3, 0, 0), 21);
    }

    private static void textInPlace() {
        Checks.sentence("THE TAPE, which is empty then, is the TEXT of a USE (0, 1), in place of one ahead: 1.");
        FurrowTalk x = new FurrowTalk();
        due("long", Given.text(x, 0, SIXTY), 1);
        due("THE TAPE is empty", x.count(4), 0);
        due("short, in place of long", Given.text(x, 0, "b"), 1);
        due("its law", x.law(0, 2, 3, 4), 3);
        due("long, in place of short", Given.text(x, 0, SIXTY), 1);
        due("its law", x.law(0, 2, 3, 4), 69);
        due("one byte at a time", x.feed('1', 1) + x.feed('2', 1), 3);
        due("are one TEXT", x.text(0), 1);
        due("its law", x.law(0, 2, 3, 4), 12);
        due("nothing is left of it", x.text(0), -10);
    }

    private static void textOfUse() {
        FurrowTalk x = new FurrowTalk();
        due("of 0", Given.text(x, 0, "a*2"), 1);
        due("of 1", Given.text(x, 1, "l*3"), 1);
        due("law of 0", x.law(0, 5, 0, 0), 10);
        due("law of 1", x.law(1, 5, 0, 0), 15);
        for (String name : new String[] {"l", "c", "d"}) {
            told(0, name, -10);
            told(1, name, 1);
        }
        for (String name : new String[] {"a", "b", "k"}) {
            told(0, name, 1);
            told(1, name, -10);
        }
    }

    private static void textOfFault() {
        Checks.sentence("-10 less the FAULT (no ERROR; the one ahead stays; THE TAPE is empty, too).");
        FurrowTalk x = new FurrowTalk();
        due("a first one", Given.text(x, 0, "a*2"), 1);
        due("a FAULT", Given.text(x, 0, "b*9*9+x"), -16);
        due("THE TAPE is empty", x.count(4), 0);
        due("the one ahead stays", x.law(0, 5, 1, 0), 10);
        due("of an empty TAPE", x.text(0), -10);
        due("the one ahead stays, too", x.law(0, 5, 1, 0), 10);
        due("too early", Given.text(x, 0, SIXTY.substring(0, 59) + "+"), -70);
        due("it stays still", x.law(0, 5, 1, 0), 10);
        due("without one ahead", Given.text(x, 1, "l+"), -12);
        due("there is none", x.untell(1), 0);
        due("there is one", x.untell(0), 1);
        for (int k = 1; k <= 6; k++) {
            due("no ERROR " + k, x.told(k), 0);
        }
    }

    private static void untell() {
        Checks.sentence("There is no TEXT of a USE any more: 1 if there was, else 0. BEYOND.");
        FurrowTalk x = new FurrowTalk();
        due("there was none", x.untell(1), 0);
        due("a TEXT", Given.text(x, 1, "0"), 1);
        due("law", x.law(1, 3, 4, 5), 0);
        due("there was", x.untell(1), 1);
        due("law without it", x.law(1, 3, 4, 5), 12);
        due("there was none any more", x.untell(1), 0);
        Given.feed(x, "12");
        for (int use : new int[] {-1, 2, MIN, MAX}) {
            due("use " + use, x.untell(use), BEYOND);
        }
        due("THE TAPE has nothing to do with it", x.untell(0), 0);
        due("it stays", x.count(4), 2);
    }

    private static void law() {
        Checks.sentence("What a USE gives with its NAMES in order as a, b, c (any number). BEYOND.");
        FurrowTalk x = new FurrowTalk();
        for (int use : new int[] {-1, 2, MIN, MAX}) {
            due("use " + use, x.law(use, 1, 1, 1), BEYOND);
        }
        Given.text(x, 0, "(a=b)*50+(b>k)*20+(a<k)*7");
        due("MIN, MIN, MAX", x.law(0, MIN, MIN, MAX), 57);
        due("MAX, MAX, MIN", x.law(0, MAX, MAX, MIN), 70);
        due("MIN, MAX, 0", x.law(0, MIN, MAX, 0), 27);
        Given.text(x, 1, "(l=c)*50+(c>d)*20+(l<d)*7");
        due("SENSE of MIN, MIN, MAX", x.law(1, MIN, MIN, MAX), 57);
        due("SENSE of MAX, MAX, MIN", x.law(1, MAX, MAX, MIN), 70);
        due("SENSE of MIN, MAX, 0", x.law(1, MIN, MAX, 0), 27);
        due("none of them an ERROR", x.told(1), 4);
    }
}
