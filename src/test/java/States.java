/** Objects in the states to which a run of calls may bring them; each call makes one anew. */
final class States {
    static final int NEW = 0;
    /** Something of all, and room for more. */
    static final int SOME = 1;
    /** As many FURROWS, bytes and numbers that wait as there may be. */
    static final int FULL = 2;
    static final int LAST_YEAR = 3;
    static final int NONE_SEEN = 4;
    static final int ALL = 5;

    private States() {
    }

    static FurrowTalk made(int state) {
        switch (state) {
            case SOME: return some();
            case FULL: return full();
            case LAST_YEAR: return lastYear();
            case NONE_SEEN: return noneSeen();
            default: return new FurrowTalk();
        }
    }

    private static FurrowTalk some() {
        FurrowTalk x = Given.furrows(0, 42, 0, 44, 45, 1, 59, 45, 2, 62, 31, 1);
        x.cover(2, 1);
        x.image();
        x.years(3);
        x.patience(7);
        x.seed(77);
        Given.text(x, 0, "a*3+b");
        Given.text(x, 1, "l-d");
        Given.feed(x, "b*3");
        x.tell(0);
        x.tell(3);
        x.told(0);
        Given.row(x, 0, 8, 11, 12, 13, 14);
        Given.row(x, 1, 16, 21, 22, 23, 24, 25);
        Given.row(x, 2, 32, 31, 32, 33);
        x.voice(1, 2, 5);
        return x;
    }

    private static FurrowTalk full() {
        FurrowTalk x = Given.twelve();
        Given.feed(x, "123456781234567812345678123456781234567812345678123456781234");
        for (int i = 0; i < 24; i++) {
            x.tell(i);
        }
        Given.row(x, 0, 32, 10, 11, 12, 13, 14, 15, 20, 21, 22, 23, 24, 25);
        x.sheet(1, 8, 24);
        x.sheet(2, 16, 24);
        x.sheet(3, 32, 24);
        return x;
    }

    private static FurrowTalk lastYear() {
        FurrowTalk x = new FurrowTalk();
        Given.atYear(x, 9999);
        x.plough(20, 14, 1);
        x.image();
        return x;
    }

    private static FurrowTalk noneSeen() {
        FurrowTalk x = Given.furrows(0, 10, 0, 10, 21, 3);
        x.years(6);
        Given.row(x, 0, 8, 1);
        return x;
    }
}
