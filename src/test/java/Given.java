/** Makes what the tests begin with; each call made for it has to answer as it is due, too. */
final class Given {
    private Given() {
    }

    /** Furrows as km, lc, hand each. */
    static FurrowTalk furrows(int... furrows) {
        FurrowTalk x = new FurrowTalk();
        for (int i = 0; i < furrows.length; i += 3) {
            Checks.due("plough", x.plough(furrows[i], furrows[i + 1], furrows[i + 2]), i / 3);
        }
        return x;
    }

    /** Twelve furrows of KIND 0, LINE 10, HAND 0: as many as there may be. */
    static FurrowTalk twelve() {
        FurrowTalk x = new FurrowTalk();
        for (int i = 0; i < 12; i++) {
            Checks.due("plough", x.plough(0, 10, 0), i);
        }
        return x;
    }

    /** Lets years go by from YEAR 0 up to this one. */
    static void atYear(FurrowTalk x, int year) {
        for (int i = 0; i < year / 60; i++) {
            x.years(60);
        }
        if (year % 60 != 0) {
            x.years(year % 60);
        }
        Checks.due("YEAR", x.count(2), year);
    }

    static void feed(FurrowTalk x, String bytes) {
        for (int i = 0; i < bytes.length(); i += 8) {
            int n = Math.min(8, bytes.length() - i);
            long word = 0;
            for (int j = 0; j < n; j++) {
                word |= (long) bytes.charAt(i + j) << 8 * j;
            }
            x.feed(word, n);
        }
    }

    static int text(FurrowTalk x, int use, String bytes) {
        feed(x, bytes);
        return x.text(use);
    }

    static void row(FurrowTalk x, int sheet, int bits, int... numbers) {
        Checks.due("sheet", x.sheet(sheet, bits, numbers.length), 1);
        for (int i = 0; i < numbers.length; i++) {
            Checks.due("put", x.put(sheet, i, numbers[i]), 1);
        }
    }
}
