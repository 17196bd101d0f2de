/** No call throws or fails to end, for any arguments in any state, also far beyond 512 calls. */
public final class EndsTest {
    private static final int[] ENDS = {Integer.MIN_VALUE, Integer.MIN_VALUE + 1, -100001, -9, -2, -1, 0, 1, 2, 5,
        9, 10, 11, 12, 19, 20, 39, 40, 99, 100, 101, 100000, 100001, Integer.MAX_VALUE - 1, Integer.MAX_VALUE};
    private static final int METHODS = Calls.NAMES.length;

    public static void main(String[] args) {
        Due due = new Due();
        onNewObjects(due);
        onFullObjects(due);
        onAndOn(due);
        due.close("EndsTest");
    }

    private static void onNewObjects(Due due) {
        for (int a : ENDS) {
            for (int b : ENDS) {
                HeadBudgets x = new HeadBudgets();
                for (int method = 0; method < METHODS; method++) {
                    ask(due, x, method, a, b, 1);
                }
            }
        }
    }

    private static void onFullObjects(Due due) {
        for (int a : ENDS) {
            for (int b : ENDS) {
                HeadBudgets x = full();
                for (int method = METHODS - 1; method >= 0; method--) {
                    ask(due, x, method, a, b, a);
                }
            }
        }
    }

    private static HeadBudgets full() {
        HeadBudgets x = new HeadBudgets();
        for (int head = 1; head < 20; head++) {
            x.make((head - 1) / 2 * 2 / 3, head % 10);
        }
        for (int head = 0; head < 20; head++) {
            x.allot(head, 100000);
        }
        for (int number = 0; number < 40; number++) {
            x.commit(number % 20, 1 + number);
        }
        return x;
    }

    private static void onAndOn(Due due) {
        HeadBudgets x = new HeadBudgets();
        long mix = 20261119;
        for (int call = 0; call < 400000; call++) {
            mix = mix * 6364136223846793005L + 1442695040888963407L;
            int a = pick(mix >>> 33);
            int b = pick(mix >>> 41);
            int c = pick(mix >>> 49);
            ask(due, x, (int) ((mix >>> 20) & 0xfff) % METHODS, a, b, c);
        }
    }

    private static int pick(long bits) {
        int number = (int) (bits & 0xff);
        return number < 60 ? ENDS[number % ENDS.length] : number % 21;
    }

    private static void ask(Due due, HeadBudgets x, int method, int a, int b, int c) {
        try {
            Calls.answer(x, Calls.NAMES[method], a, b, c);
            due.holds("answers", true);
        } catch (RuntimeException thrown) {
            due.holds(Calls.NAMES[method] + " of " + a + ", " + b + ", " + c + " threw " + thrown, false);
        }
    }
}
