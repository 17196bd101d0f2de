/** One call of a method of HeadBudgets, by its name, with its arguments. */
record Call(String name, int... with) {
    int answer(HeadBudgets x) {
        return Calls.answer(x, name, argument(0), argument(1), argument(2));
    }

    private int argument(int place) {
        return place < with.length ? with[place] : 0;
    }

    @Override
    public String toString() {
        StringBuilder text = new StringBuilder(name).append('(');
        for (int place = 0; place < with.length; place++) {
            text.append(place == 0 ? "" : ", ").append(with[place]);
        }
        return text.append(')').toString();
    }
}
