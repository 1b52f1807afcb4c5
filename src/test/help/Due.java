/** What the tests share: counting answers that are not due, and telling a debate by its texts. */
final class Due {
    static final int NONE = -1, BAD = -2, NOT = -3, FULL = -4;
    static final int NULL = -11, INDEX = -12, CAST = -13, STORE = -14, SIZE = -15;
    static final int LEAST = Integer.MIN_VALUE, MOST = Integer.MAX_VALUE;
    static final long BAD_LONG = Long.MIN_VALUE + 2;
    static final int[] NUMBERS_BELOW_0 = {-1, -2, -3, -4, -60, -256, LEAST + 1, LEAST};

    private final String name;
    private int wrong = 0;
    private int asked = 0;

    Due(String name) {
        this.name = name;
    }

    void is(String what, long got, long want) {
        asked++;
        if (got != want) {
            wrong++;
            System.out.println(name + ": " + what + " answered " + got + ", due is " + want);
        }
    }

    /** What a car is behind a moment: as many of x, y, WAY, POINTS, STRUCK, CURRENT as are given. */
    void isAt(String what, DodgemDebate d, int moment, int car, int... parts) {
        for (int i = 0; i < parts.length; i++) {
            is(what + ": at(" + moment + ", " + car + ", " + i + ")", d.at(moment, car, i), parts[i]);
        }
    }

    void end() {
        System.out.println(name + ": " + asked + " answers, " + (wrong == 0 ? "all as due" : wrong + " wrong"));
        if (wrong != 0 || asked == 0) {
            System.exit(1);
        }
    }

    static DodgemDebate debate(String cars, String steers) {
        DodgemDebate d = new DodgemDebate();
        typeAll(d, 0, cars);
        typeAll(d, 1, steers);
        return d;
    }

    static void typeAll(DodgemDebate d, int text, String s) {
        for (char c : s.toCharArray()) {
            d.type(text, c);
        }
    }

    /** Cuts the current of cars in moment 0, so that they stand still until they are pushed. */
    static DodgemDebate still(DodgemDebate d, int... cars) {
        for (int car : cars) {
            d.event(1, 0, car);
        }
        return d;
    }

    static void fillSheet(DodgemDebate d, int s, int form, int... items) {
        d.sheet(s, form, items.length);
        for (int i = 0; i < items.length; i++) {
            d.put(s, form, i, items[i]);
        }
    }
}
