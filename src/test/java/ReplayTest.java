import java.util.Random;

/** Long runs of mixed calls, with the same seeds each time, against a budget by replaying. */
public final class ReplayTest {
    private static final int RUNS = 1500;
    private static final int CALLS = 512;
    private static final int[] ENDS = {Integer.MIN_VALUE, -1000000, -9, -1, 0, 1, 2, 9, 10, 11, 12,
        19, 20, 21, 39, 40, 41, 99, 100, 101, 99999, 100000, 100001, 1000000, Integer.MAX_VALUE};
    private static final String[] CHANGES = {"make", "allot", "freeze", "setShare", "setCarried",
        "commit", "pay", "release", "vire", "endYear", "undo", "revoke"};
    private static final String[] LOOKS = {"count", "head", "total", "commitment", "deed",
        "mostFrom", "bestGiver", "richest", "wouldLapse"};

    /** How often each of CHANGES is called, by the kind of the run. */
    private static final int[][] WEIGHTS = {
        {10, 20, 6, 6, 3, 14, 10, 5, 20, 2, 10, 10},
        {4, 30, 2, 8, 1, 6, 3, 2, 40, 1, 4, 12},
        {20, 20, 12, 2, 2, 6, 4, 2, 10, 1, 2, 2},
        {3, 20, 1, 1, 4, 50, 12, 8, 6, 2, 6, 6},
        {6, 14, 2, 3, 4, 8, 6, 3, 10, 30, 20, 5},
        {3, 10, 2, 3, 1, 18, 4, 3, 20, 1, 22, 26}};

    private final Due due;
    private final Random random;
    private final int kind;
    private final HeadBudgets x = new HeadBudgets();
    private final ReplayedBudget replayed = new ReplayedBudget();
    private int scale = 100;

    private ReplayTest(Due due, int seed) {
        this.due = due;
        this.random = new Random(seed);
        this.kind = seed % WEIGHTS.length;
    }

    public static void main(String[] args) {
        Due due = new Due();
        for (int seed = 0; seed < RUNS; seed++) {
            new ReplayTest(due, seed).run(seed);
        }
        due.close("ReplayTest");
    }

    private void run(int seed) {
        scale = new int[] {8, 100, 3000, 100000}[random.nextInt(4)];
        for (int call = 0; call < CALLS; call++) {
            String name = random.nextInt(100) < 55 ? change() : LOOKS[random.nextInt(LOOKS.length)];
            int a = first(name);
            int b = second(name);
            int c = amount();
            if (random.nextInt(25) == 0) {
                a = ENDS[random.nextInt(ENDS.length)];
            }
            if (random.nextInt(25) == 0) {
                b = ENDS[random.nextInt(ENDS.length)];
            }
            if (random.nextInt(25) == 0) {
                c = ENDS[random.nextInt(ENDS.length)];
            }
            String told = "seed " + seed + ", call " + call + ": " + name + " of " + a + ", " + b + ", " + c;
            due.is(told, Calls.answer(x, name, a, b, c), replayed.call(name, a, b, c));
        }
    }

    private String change() {
        int all = 0;
        for (int weight : WEIGHTS[kind]) {
            all += weight;
        }
        int left = random.nextInt(all);
        int at = 0;
        while (left >= WEIGHTS[kind][at]) {
            left -= WEIGHTS[kind][at];
            at++;
        }
        return CHANGES[at];
    }

    private int someHead() {
        return random.nextInt(replayed.call("count", 1, 0, 0));
    }

    private int someCommitment() {
        return random.nextInt(replayed.call("count", 2, 0, 0) + 1);
    }

    private int amount() {
        return 1 + random.nextInt(scale);
    }

    private int first(String name) {
        return switch (name) {
            case "setCarried" -> random.nextInt(101);
            case "pay", "release", "commitment" -> someCommitment();
            case "revoke", "deed" -> random.nextInt(14);
            case "count" -> random.nextInt(10);
            default -> someHead();
        };
    }

    private int second(String name) {
        return switch (name) {
            case "make" -> random.nextInt(10);
            case "freeze" -> random.nextInt(3) == 0 ? 1 : 0;
            case "setShare" -> random.nextInt(101);
            case "vire", "mostFrom" -> someHead();
            case "head" -> random.nextInt(12);
            case "total" -> random.nextInt(5);
            case "commitment" -> random.nextInt(4);
            case "richest" -> random.nextInt(8);
            default -> amount();
        };
    }
}
