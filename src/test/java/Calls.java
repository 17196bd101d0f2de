/** The methods of HeadBudgets by their names, each with as many of three arguments as it takes. */
final class Calls {
    static final String[] NAMES = {"make", "allot", "freeze", "setShare", "setCarried", "commit", "pay",
        "release", "vire", "endYear", "undo", "revoke", "count", "head", "total", "commitment", "deed",
        "mostFrom", "bestGiver", "richest", "wouldLapse"};

    private Calls() {
    }

    static int answer(HeadBudgets x, String name, int a, int b, int c) {
        return switch (name) {
            case "make" -> x.make(a, b);
            case "allot" -> x.allot(a, b);
            case "freeze" -> x.freeze(a, b);
            case "setShare" -> x.setShare(a, b);
            case "setCarried" -> x.setCarried(a);
            case "commit" -> x.commit(a, b);
            case "pay" -> x.pay(a, b);
            case "release" -> x.release(a);
            case "vire" -> x.vire(a, b, c);
            case "endYear" -> x.endYear();
            case "undo" -> x.undo();
            case "revoke" -> x.revoke(a);
            case "count" -> x.count(a);
            case "head" -> x.head(a, b);
            case "total" -> x.total(a, b);
            case "commitment" -> x.commitment(a, b);
            case "deed" -> x.deed(a);
            case "mostFrom" -> x.mostFrom(a, b);
            case "bestGiver" -> x.bestGiver(a);
            case "richest" -> x.richest(a, b);
            case "wouldLapse" -> x.wouldLapse(a);
            default -> throw new IllegalArgumentException(name);
        };
    }
}
