/** All that the looking calls answer of an object, as one text. */
final class Looks {
    private Looks() {
    }

    static String at(HeadBudgets x) {
        StringBuilder text = new StringBuilder();
        for (int what = 0; what <= 10; what++) {
            text.append(x.count(what)).append(' ');
        }
        int heads = x.count(1);
        for (int head = 0; head < heads; head++) {
            text.append("\nhead ");
            for (int what = 0; what <= 11; what++) {
                text.append(x.head(head, what)).append(' ');
            }
        }
        int commitments = x.count(2);
        for (int commitment = 0; commitment < commitments; commitment++) {
            text.append("\ncommitment ");
            for (int what = 0; what <= 3; what++) {
                text.append(x.commitment(commitment, what)).append(' ');
            }
        }
        text.append("\ndeeds ");
        for (int index = 0; index <= 12; index++) {
            text.append(x.deed(index)).append(' ');
        }
        return text.toString();
    }
}
