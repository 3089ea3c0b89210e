import java.util.Random;

/** Many runs of calls, the same each time, on a FurrowTalk and on the Model: each answer has to be the same. */
public final class ModelTest {
    private static final int RUNS = 1500;
    private static final int CALLS = 512;
    private static final String[] NAMES = {"plough", "furrowIs", "become", "as", "answers", "cover", "redraw",
        "patience", "feed", "text", "untell", "law", "years", "loose", "seed", "talk", "meaning", "then", "fewest",
        "reply", "odds", "fits", "voice", "body", "sheet", "put", "move", "lines", "judge", "image", "restore",
        "tell", "check", "count", "told"};
    private static final int[] ARGUMENTS = {3, 2, 2, 2, 2, 2, 2, 1, 2, 1, 1, 4, 1, 1, 1, 1, 1, 2, 1, 2, 3, 1, 3, 1, 3,
        3, 5, 1, 1, 0, 0, 1, 0, 1, 1};
    private static final int[] ODD = {0, -1, 1, Integer.MAX_VALUE, Integer.MIN_VALUE, 60, 61, 99, 100, -99, -100, 128,
        255, 256, 65535, 32768, 12, 13, 24, 25, 1000, -1000000001};

    private final Random random;
    private final FurrowTalk talk = new FurrowTalk();
    private final Model model = new Model();
    private final StringBuilder told = new StringBuilder();
    private final int[] weights = new int[NAMES.length];
    private int allWeights;
    private int calls;

    private ModelTest(long seed) {
        random = new Random(seed);
        for (int i = 0; i < weights.length; i++) {
            weights[i] = random.nextInt(10) < 3 ? 0 : 1 + random.nextInt(4);
        }
        weights[0] += random.nextInt(4);
        if (seed % 3 == 0) {
            weights[12] = 0;
            weights[13] = 0;
        }
        for (int w : weights) {
            allWeights += w;
        }
    }

    public static void main(String[] args) {
        for (long seed = 1; seed <= RUNS && Checks.allRight(); seed++) {
            new ModelTest(seed).run();
        }
        Checks.end();
    }

    private void run() {
        int furrows = random.nextInt(13);
        for (int i = 0; i < furrows; i++) {
            same("plough", arguments("plough", 3));
        }
        while (calls < CALLS - 40 && Checks.allRight()) {
            if (random.nextInt(12) == 0) {
                situation();
            } else {
                int i = pick();
                same(NAMES[i], arguments(NAMES[i], ARGUMENTS[i]));
            }
        }
        for (int i = 0; i < 8; i++) {
            same("count", i);
        }
        for (int i = 1; i < 7; i++) {
            same("told", i);
        }
        for (int i = 0; i < 26 && Checks.allRight(); i++) {
            same("furrowIs", random.nextInt(12), random.nextInt(10));
        }
        if (!Checks.allRight()) {
            System.out.println(told);
        }
    }

    private int pick() {
        int at = random.nextInt(allWeights);
        int i = 0;
        while (at >= weights[i]) {
            at -= weights[i];
            i++;
        }
        return i;
    }

    /** Calls in a row that mere chance would hardly bring. */
    private void situation() {
        switch (random.nextInt(7)) {
            case 0:
                giveText(random.nextInt(2));
                break;
            case 1:
                fillSheet((int) model.call("count", new long[] {0}), 10);
                break;
            case 2:
                tellAges();
                break;
            case 3:
                fitSheet();
                break;
            case 4:
                judgeSheet();
                break;
            case 5:
                same("image");
                break;
            default:
                for (int i = 0; i < 3; i++) {
                    same("voice", random.nextInt(12), random.nextInt(4), number());
                    same("count", 6);
                    same("body", random.nextInt(7));
                }
                break;
        }
    }

    private void giveText(int use) {
        String names = use == 0 ? "abk" : "lcd";
        StringBuilder t = new StringBuilder();
        write(t, names, 0, 0);
        if (random.nextInt(3) == 0 && t.length() > 0) {
            String signs = "abklcd0123456789+-*/%<=>&|!()x ";
            t.setCharAt(random.nextInt(t.length()), signs.charAt(random.nextInt(signs.length())));
        }
        if (random.nextInt(6) == 0 && t.length() > 0) {
            t.setLength(random.nextInt(t.length()));
        }
        if (random.nextInt(9) == 0) {
            t.insert(random.nextInt(t.length() + 1), "!!!((".substring(random.nextInt(5)));
        }
        for (int i = 0; i < t.length(); i += 8) {
            int n = Math.min(8, t.length() - i);
            long word = random.nextLong() << 8 * (n - 1) << 8;
            for (int j = 0; j < n; j++) {
                word |= (long) t.charAt(i + j) << 8 * j;
            }
            same("feed", word, n);
        }
        same("text", use);
        for (int i = 0; i < 3; i++) {
            same("law", use, small(), small(), number());
        }
    }

    private void write(StringBuilder t, String names, int level, int open) {
        String[] signs = {"|", "&", "<=>", "+-", "*/%"};
        if (level == 5) {
            int what = random.nextInt(open < 5 ? 9 : 6);
            if (what < 3) {
                t.append(names.charAt(what));
            } else if (what < 6) {
                int digits = 1 + random.nextInt(random.nextInt(4) == 0 ? 5 : 3);
                for (int i = 0; i < digits; i++) {
                    t.append((char) ('0' + random.nextInt(10)));
                }
            } else if (what == 6) {
                t.append('!');
                write(t, names, 5, open + 1);
            } else {
                t.append('(');
                write(t, names, 0, open + 1);
                t.append(')');
            }
            return;
        }
        write(t, names, level + 1, open);
        while (random.nextInt(t.length() > 30 ? 12 : 4) == 0) {
            t.append(signs[level].charAt(random.nextInt(signs[level].length())));
            write(t, names, level + 1, open);
        }
    }

    private void fillSheet(int size, int least) {
        int sheet = random.nextInt(4);
        same("sheet", sheet, 8 << random.nextInt(3), Math.max(0, Math.min(24, size + random.nextInt(3) - 1)));
        for (int i = 0; i < size; i++) {
            same("put", sheet, i, random.nextInt(8) == 0 ? number() : least + random.nextInt(120) / 10 * 10
                + random.nextInt(6));
        }
        same("lines", sheet);
    }

    private void tellAges() {
        int size = (int) model.call("count", new long[] {0});
        for (int i = 0; i < size; i++) {
            long age = model.call("furrowIs", new long[] {i, 5});
            same("furrowIs", i, 5);
            same("tell", random.nextInt(25) == 0 ? age + 1 : age);
        }
        model.call("count", new long[] {0});
        same("check");
    }

    private void fitSheet() {
        int sheet = random.nextInt(4);
        Model.All later = model.all.copy();
        for (int i = random.nextInt(12); i > 0; i--) {
            later.goBy();
        }
        same("sheet", sheet, 8 << random.nextInt(3), later.seen().size());
        for (int i = 0; i < later.seen().size(); i++) {
            same("put", sheet, i, later.seen().get(i).lng + (random.nextInt(20) == 0 ? 1 : 0));
        }
        same("fits", sheet);
    }

    private void judgeSheet() {
        int sheet = random.nextInt(4);
        int size = model.all.ones.size();
        same("sheet", sheet, 8 << random.nextInt(3), size);
        for (int i = 0; i < size; i++) {
            same("put", sheet, i, model.sense(model.all.ones.get(i)) + (random.nextInt(15) == 0 ? 256 : 0));
        }
        same("judge", sheet);
    }

    private long[] arguments(String name, int n) {
        long[] a = new long[n];
        for (int i = 0; i < n; i++) {
            a[i] = random.nextInt(20) == 0 ? number() : argument(name, i);
        }
        if (name.equals("answers") && random.nextInt(3) > 0) {
            a[0] = random.nextInt(12);
            a[1] = random.nextInt(12);
        }
        return a;
    }

    private long argument(String name, int i) {
        switch (name + i) {
            case "plough0": case "become1": case "odds0": return random.nextInt(70);
            case "plough1": case "redraw1": case "reply0":
                return random.nextInt(9) == 0 ? random.nextInt(140)
                    : 10 * (1 + random.nextInt(random.nextBoolean() ? 4 : 12)) + random.nextInt(6);
            case "plough2": case "odds1": return random.nextInt(6);
            case "furrowIs1": return random.nextInt(10);
            case "meaning0": return random.nextInt(7) - 1;
            case "as1": return random.nextInt(7);
            case "patience0": return random.nextInt(22);
            case "feed0": return random.nextLong();
            case "feed1": return random.nextInt(10);
            case "then0": return random.nextInt(62);
            case "years0": return random.nextInt(random.nextInt(3) == 0 ? 62 : 4);
            case "loose0": return random.nextInt(random.nextInt(3) == 0 ? 22 : 4);
            case "seed0": case "tell0": case "put2": case "voice2": return number();
            case "law1": case "law2": case "law3": return number();
            case "voice1": return random.nextInt(4);
            case "body0": return random.nextInt(8);
            case "sheet1": return new int[] {0, 8, 16, 32, 32, 7}[random.nextInt(6)];
            case "sheet2": return random.nextInt(28) - 2;
            case "sheet0": case "put0": case "move0": case "move2": case "lines0": case "judge0": case "fits0":
                return random.nextInt(4);
            case "put1": case "move1": case "move3": case "move4": return random.nextInt(10);
            case "count0": return random.nextInt(9);
            case "told0": return random.nextInt(8);
            case "talk0": case "text0": case "untell0": case "law0": case "cover1": case "then1": case "fewest0":
            case "reply1": case "odds2": return random.nextInt(name.equals("talk") ? 3 : 2);
            default: return random.nextInt(Math.max(1, model.all.ones.size()));
        }
    }

    private int small() {
        return random.nextInt(25) - 6;
    }

    private int number() {
        switch (random.nextInt(3)) {
            case 0: return ODD[random.nextInt(ODD.length)];
            case 1: return random.nextInt();
            default: return small();
        }
    }

    private void same(String name, long... a) {
        if (!Checks.allRight() || calls >= CALLS) {
            return;
        }
        calls++;
        StringBuilder call = new StringBuilder(name).append('(');
        for (int i = 0; i < a.length; i++) {
            call.append(i == 0 ? "" : ", ").append(a[i]);
        }
        call.append(')');
        long want = model.call(name, a);
        told.append(call).append(' ').append(want).append('\n');
        Checks.due(call.toString(), answer(name, a), want);
    }

    private long answer(String name, long[] a) {
        int p = a.length > 0 ? (int) a[0] : 0;
        int q = a.length > 1 ? (int) a[1] : 0;
        int r = a.length > 2 ? (int) a[2] : 0;
        switch (name) {
            case "plough": return talk.plough(p, q, r);
            case "furrowIs": return talk.furrowIs(p, q);
            case "become": return talk.become(p, q);
            case "as": return talk.as(p, q);
            case "answers": return talk.answers(p, q);
            case "cover": return talk.cover(p, q);
            case "redraw": return talk.redraw(p, q);
            case "patience": return talk.patience(p);
            case "feed": return talk.feed(a[0], q);
            case "text": return talk.text(p);
            case "untell": return talk.untell(p);
            case "law": return talk.law(p, q, r, (int) a[3]);
            case "years": return talk.years(p);
            case "loose": return talk.loose(p);
            case "seed": return talk.seed(p);
            case "talk": return talk.talk(p);
            case "meaning": return talk.meaning(p);
            case "then": return talk.then(p, q);
            case "fewest": return talk.fewest(p);
            case "reply": return talk.reply(p, q);
            case "odds": return talk.odds(p, q, r);
            case "fits": return talk.fits(p);
            case "voice": return talk.voice(p, q, r);
            case "body": return talk.body(p);
            case "sheet": return talk.sheet(p, q, r);
            case "put": return talk.put(p, q, r);
            case "move": return talk.move(p, q, r, (int) a[3], (int) a[4]);
            case "lines": return talk.lines(p);
            case "judge": return talk.judge(p);
            case "image": return talk.image();
            case "restore": return talk.restore();
            case "tell": return talk.tell(p);
            case "check": return talk.check();
            case "count": return talk.count(p);
            case "told": return talk.told(p);
            default: throw new IllegalStateException(name);
        }
    }
}
