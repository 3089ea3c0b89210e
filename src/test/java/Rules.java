/** The document's rules of LINES, told once for the tests that go through all of them. */
final class Rules {
    private Rules() {
    }

    static boolean isLine(int lc) {
        for (int length = 1; length <= 12; length++) {
            for (int crook = 0; crook <= 5; crook++) {
                if (lc == 10 * length + crook) {
                    return true;
                }
            }
        }
        return false;
    }

    /** Whether a FURROW of a KIND with a LINE ANSWERS one with the other LINE. */
    static boolean echoes(int kind, int lc, int to, boolean oneHand) {
        boolean sameLength = lc / 10 == to / 10;
        int more = lc % 10 - to % 10;
        switch (kind) {
            case 0: return sameLength || more == 0;
            case 1: return sameLength;
            case 2: return more >= 0;
            case 3: return sameLength || more == 0 || lc / 10 + lc % 10 == to / 10 + to % 10;
            case 4: return lc == to;
            case 5: return more < 0;
            default: return sameLength || more == 0 || oneHand;
        }
    }

    /** The next z. */
    static int drawn(int z) {
        long wide = z * 1103515245L + 12345L;
        long low = wide & 0xFFFFFFFFL;
        return (int) (low >= 0x80000000L ? low - 0x100000000L : low);
    }

    /** What a draw gives that made z so. */
    static int given(int z) {
        return (int) ((z & 0xFFFFFFFFL) / 256);
    }
}
