import java.util.function.IntBinaryOperator;

/**
 * A REPLY from each LINE to each other one, for COSTS of many shapes: where far steps are dear, where they are cheap, and
 * where only some go, so that the cheapest way goes by others, turns back, or begins with any step.
 */
public final class ReplyWaysTest {
    private static final int LINES = 72;
    private static final int FAR = 1000000;
    private static final int PATIENCE = 3;

    private ReplyWaysTest() {
    }

    public static void main(String[] args) {
        shape("", (a, b) -> a + b);
        shape("a*a+b*b", (a, b) -> a * a + b * b);
        shape("a*a*a+b*b*b", (a, b) -> a * a * a + b * b * b);
        shape("1", (a, b) -> 1);
        shape("99", (a, b) -> 99);
        shape("0-a-b", (a, b) -> 1);
        shape("20-a-b*3", (a, b) -> 20 - a - b * 3);
        shape("99-a*9-b*20", (a, b) -> 99 - a * 9 - b * 20);
        shape("a%3*30+b%2*40+1", (a, b) -> a % 3 * 30 + b % 2 * 40 + 1);
        shape("99-(a=2|a=5|b=2|b=3)*98", (a, b) -> a == 2 || a == 5 || b == 2 || b == 3 ? 1 : 99);
        shape("99-(a=7|a=4|b=3|b=4)*90", (a, b) -> a == 7 || a == 4 || b == 3 || b == 4 ? 9 : 99);
        shape("99-(a=11|a=10)*98-(b=5|b=4)*97", (a, b) -> a >= 10 ? 1 : b >= 4 ? 2 : 99);
        shape("a*5%11+b*3%7", (a, b) -> a * 5 % 11 + b * 3 % 7);
        shape("a*7%12*3+b*b%6*5", (a, b) -> a * 7 % 12 * 3 + b * b % 6 * 5);
        shape("a*37%17+b*41%13+2", (a, b) -> a * 37 % 17 + b * 41 % 13 + 2);
        shape("a*k+b*(k-1)", (a, b) -> a * PATIENCE + b * (PATIENCE - 1));
        shape("(a-k)*(a-k)*9+(b-k)*(b-k)*9",
            (a, b) -> (a - PATIENCE) * (a - PATIENCE) * 9 + (b - PATIENCE) * (b - PATIENCE) * 9);
        Checks.end();
    }

    private static void shape(String text, IntBinaryOperator cost) {
        int[][] steps = stepsBetween(cost);
        int[][] ways = cheapestWays(steps);
        for (int from = 0; from < LINES; from++) {
            FurrowTalk x = Given.furrows(0, 10, 0, 25, lineAt(from), 1, 36, 65, 2);
            x.cover(2, 1);
            x.patience(PATIENCE);
            if (!text.isEmpty()) {
                Checks.due("text " + text, Given.text(x, 0, text), 1);
            }
            for (int to = 0; to < LINES; to++) {
                String what = "COST " + text + ", from " + lineAt(from) + " reply(" + lineAt(to);
                Checks.due(what + ", 0)", x.reply(lineAt(to), 0), ways[from][to]);
                Checks.due(what + ", 1)", x.reply(lineAt(to), 1), firstStep(steps, ways, from, to));
            }
        }
    }

    private static int lineAt(int place) {
        return 10 * (1 + place / 6) + place % 6;
    }

    /** The COST of each single step, FAR where LONG and CROOK are both other ones, or neither is. */
    private static int[][] stepsBetween(IntBinaryOperator cost) {
        int[][] steps = new int[LINES][LINES];
        for (int x = 0; x < LINES; x++) {
            for (int y = 0; y < LINES; y++) {
                int a = Math.abs(x / 6 - y / 6);
                int b = Math.abs(x % 6 - y % 6);
                boolean isStep = (a == 0) != (b == 0);
                steps[x][y] = isStep ? Math.max(1, Math.min(99, cost.applyAsInt(a, b))) : FAR;
            }
        }
        return steps;
    }

    private static int[][] cheapestWays(int[][] steps) {
        int[][] ways = new int[LINES][];
        for (int x = 0; x < LINES; x++) {
            ways[x] = steps[x].clone();
            ways[x][x] = 0;
        }
        for (int by = 0; by < LINES; by++) {
            for (int x = 0; x < LINES; x++) {
                for (int y = 0; y < LINES; y++) {
                    ways[x][y] = Math.min(ways[x][y], ways[x][by] + ways[by][y]);
                }
            }
        }
        return ways;
    }

    private static int firstStep(int[][] steps, int[][] ways, int from, int to) {
        for (int y = 0; y < LINES && from != to; y++) {
            if (steps[from][y] < FAR && steps[from][y] + ways[y][to] == ways[from][to]) {
                return lineAt(y);
            }
        }
        return -1;
    }
}
