/** Promises 1 and 2: a new object, feed. */
public final class TapeTest {
    private static final long BLANKS = 0x2020202020202020L;

    public static void main(String[] args) {
        Due due = new Due("TapeTest");
        newObject(due);
        feeding(due);
        fullTape(due);
        due.end();
    }

    private static void newObject(Due due) {
        PulseRent x = new PulseRent();
        int[] counts = {0, 0, 0, 0, 0, 0, 0, 20, 1, 0, 0, 0, 0};
        for (int what = 0; what < counts.length; what++) {
            due.is("new: count(" + what + ")", x.count(what), counts[what]);
        }
        due.is("new: room(0, 0)", x.room(0, 0), PulseRent.NONE);
        due.is("new: room(0, 3)", x.room(0, 3), PulseRent.NONE);
        due.is("new: tenant(0, 0)", x.tenant(0, 0), PulseRent.NONE);
        due.is("new: tenant(0, 4)", x.tenant(0, 4), PulseRent.NONE);
        due.is("new: pulse(0)", x.pulse(0), PulseRent.NONE);
        due.is("new: drink(0)", x.drink(0), false);
        due.is("new: move(0, 0)", x.move(0, 0), false);
        due.is("new: undo()", x.undo(), false);
        due.is("new: judged(0)", x.judged(0), PulseRent.NONE);
        due.is("new: match(0)", x.match(0), -2);
        due.is("new: mark(0, true)", x.mark(0, true), false);
        due.is("new: noon()", x.noon(), 0);
        due.is("new: house() of nothing", x.house(), 0);
        due.is("new: months() of nothing", x.months(), 0);
    }

    private static void feeding(Due due) {
        PulseRent x = new PulseRent();
        due.is("nothing but zeros", x.feed(0, 0, 0), 0);
        // a newline and the two ends of 32 .. 126 stay, their neighbours and high bytes go
        due.is("edges of the signs", x.feed(0x0A207E7F1F090BFFL, 0x80A0L, -1L), 3);
        due.is("the rest of a is behind, b and c too", x.feed(0, 0x41L, 0x42L), 5);
        due.is("count(12)", x.count(12), 5);

        // the highest byte comes first: "every 7;" must be read from left to right
        PulseRent y = new PulseRent();
        due.is("feed in order", y.feed(0x6576657279203700L, 0, 0x3B00000000000000L), 8);
        due.is("house()", y.house(), 0);
        due.is("count(8)", y.count(8), 7);
        due.is("the TAPE is taken", y.count(12), 0);
        due.is("a, b, c in turn", y.feed(0x6576L, 0x657279L, 0x20393B00L), 8);
        due.is("house()", y.house(), 0);
        due.is("count(8)", y.count(8), 9);
        y.feed(0x21L, 0, 0);
        due.is("months() of !", y.months(), 1);
        due.is("taken with a FAULT too", y.count(12), 0);
    }

    private static void fullTape(Due due) {
        PulseRent x = new PulseRent();
        for (int i = 1; i <= 41; i++) {
            due.is("feed", x.feed(BLANKS, BLANKS, BLANKS), 24 * i);
        }
        due.is("990 signs", x.feed(0x202020202020L, 0, 0), 990);
        // of 24 signs 10 find a place: the rest are left out
        due.is("1,000 at most", x.feed(0x6576657279203320L, 0x3B20202020202020L, BLANKS), 1000);
        due.is("no more", x.feed(BLANKS, 1, 2), 1000);
        due.is("count(12)", x.count(12), 1000);
        due.is("house()", x.house(), 0);
        due.is("every told within the 1,000", x.count(8), 3);
    }
}
