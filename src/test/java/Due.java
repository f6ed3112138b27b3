import java.io.IOException;
import java.io.UncheckedIOException;
import java.nio.file.Files;
import java.nio.file.Path;

/** What the tests share: a house told as text, and answers compared with those that are due. */
final class Due {
    private final String test;
    private String document;
    private String words = "";
    private int wrong;
    private int asked;

    Due(String test) {
        this.test = test;
    }

    /** What is asked from here on is due by these words; they must stand in the document. */
    void of(String quoted) {
        if (document == null) {
            document = readDocument();
        }
        words = " [" + quoted + "]";
        is("the document has these words", document.contains(quoted), true);
    }

    private static String readDocument() {
        try {
            return Files.readString(Path.of("../shared/DOC.md")).replaceAll("\\s+", " ");
        } catch (IOException e) {
            throw new UncheckedIOException(e);
        }
    }

    void is(String call, long got, long want) {
        asked++;
        if (got != want) {
            wrong++;
            System.out.println(test + ": " + call + " answered " + got + ", due is " + want + words);
        }
    }

    void same(String call, String got, String want) {
        is(call + ": " + got + " and not " + want, got.equals(want), true);
    }

    void is(String call, boolean got, boolean want) {
        is(call, got ? 1 : 0, want ? 1 : 0);
    }

    /** Ends the test: with exit code 1 if an answer was not as due. */
    void end() {
        System.out.println(test + ": " + asked + " answers, " + wrong + " wrong");
        if (wrong != 0 || asked == 0) {
            System.exit(1);
        }
    }

    static void feed(PulseRent x, String text) {
        for (int i = 0; i < text.length(); i += 24) {
            x.feed(eight(text, i), eight(text, i + 8), eight(text, i + 16));
        }
    }

    private static long eight(String text, int from) {
        long bytes = 0;
        for (int i = from; i < from + 8; i++) {
            bytes = bytes << 8 | (i < text.length() ? text.charAt(i) : 0);
        }
        return bytes;
    }

    static int house(PulseRent x, String text) {
        feed(x, text);
        return x.house();
    }

    /** A text with ^ ahead of the token that is wrong, read as a HOUSE. */
    void faultyHouse(PulseRent x, int kind, String marked) {
        feed(x, marked.replace("^", ""));
        is("house() of " + marked, x.house(), kind + 16 * marked.indexOf('^'));
        is("count(12) behind it", x.count(12), 0);
    }

    /** Likewise, read as MONTHS. */
    void faultyMonths(PulseRent x, int kind, String marked) {
        feed(x, marked.replace("^", ""));
        is("months() of " + marked, x.months(), kind + 16 * marked.indexOf('^'));
        is("count(12) behind it", x.count(12), 0);
    }

    /** All that can be seen of the HOUSE, the minute and the TENANTS; some 110 calls. */
    static String look(PulseRent x) {
        StringBuilder seen = new StringBuilder("counts");
        for (int what = 0; what < 13; what++) {
            seen.append(' ').append(x.count(what));
        }
        for (int room = 0; room < x.count(0); room++) {
            seen.append(" room");
            for (int what = 0; what < 4; what++) {
                seen.append(' ').append(x.room(room, what));
            }
        }
        for (int tenant = 0; tenant < x.count(1); tenant++) {
            seen.append(" tenant");
            for (int what = 0; what < 10; what++) {
                seen.append(' ').append(x.tenant(tenant, what));
            }
        }
        return seen.toString();
    }

    static int months(PulseRent x, String text) {
        feed(x, text);
        return x.months();
    }

    /** A new object with this HOUSE; the test is broken if the HOUSE has a FAULT. */
    static PulseRent housed(String text) {
        PulseRent x = new PulseRent();
        int fault = house(x, text);
        if (fault != 0) {
            throw new IllegalArgumentException("fault " + fault + " in: " + text);
        }
        return x;
    }
}
