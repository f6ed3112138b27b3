/** What the tests share: a house told as text, and answers compared with those that are due. */
final class Due {
    private final String test;
    private int wrong;
    private int asked;

    Due(String test) {
        this.test = test;
    }

    void is(String call, long got, long want) {
        asked++;
        if (got != want) {
            wrong++;
            System.out.println(test + ": " + call + " answered " + got + ", due is " + want);
        }
    }

    void is(String call, boolean got, boolean want) {
        is(call, got ? 1 : 0, want ? 1 : 0);
    }

    /** Ends the test: with exit code 1 if an answer was not as due. */
    void end() {
        System.out.println(test + ": " + asked + " answers, " + wrong + " wrong");
        if (wrong != 0 || asked == 0) {
            System.exit(1);
        }
    }

    static void feed(PulseRent x, String text) {
        for (int i = 0; i < text.length(); i += 24) {
            x.feed(eight(text, i), eight(text, i + 8), eight(text, i + 16));
        }
    }

    private static long eight(String text, int from) {
        long bytes = 0;
        for (int i = from; i < from + 8; i++) {
            bytes = bytes << 8 | (i < text.length() ? text.charAt(i) : 0);
        }
        return bytes;
    }

    static int house(PulseRent x, String text) {
        feed(x, text);
        return x.house();
    }

    /** A text with ^ ahead of the token that is wrong, read as a HOUSE. */
    void faultyHouse(PulseRent x, int kind, String marked) {
        feed(x, marked.replace("^", ""));
        is("house() of " + marked, x.house(), kind + 16 * marked.indexOf('^'));
        is("count(12) behind it", x.count(12), 0);
    }

    /** Likewise, read as MONTHS. */
    void faultyMonths(PulseRent x, int kind, String marked) {
        feed(x, marked.replace("^", ""));
        is("months() of " + marked, x.months(), kind + 16 * marked.indexOf('^'));
        is("count(12) behind it", x.count(12), 0);
    }

    static int months(PulseRent x, String text) {
        feed(x, text);
        return x.months();
    }

    /** A new object with this HOUSE; the test is broken if the HOUSE has a FAULT. */
    static PulseRent housed(String text) {
        PulseRent x = new PulseRent();
        int fault = house(x, text);
        if (fault != 0) {
            throw new IllegalArgumentException("fault " + fault + " in: " + text);
        }
        return x;
    }
}
