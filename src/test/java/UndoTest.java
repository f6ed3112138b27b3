/** Promises 14 and 32: undo and marks. */
public final class UndoTest {
    private static final String HOUSE = "room attic stairs 40 noise 2 base 10 ; room hall stairs 15 noise 0 base 30 ; "
            + "room den stairs 7 noise 1 base 0 ; tenant ann plain rest 60 calm 10 coins 700 in attic ; "
            + "tenant cid runner rest 55 calm 0 coins 50 ; tenant dot sick rest 70 calm 5 coins 100 in hall ; ";

    public static void main(String[] args) {
        Due due = new Due("UndoTest");
        oneByOne(due);
        lastSixteen(due);
        notUndone(due);
        marks(due);
        marksAreCopies(due);
        due.end();
    }

    /** All that can be seen of the state, in one number. */
    private static long look(PulseRent x) {
        long all = 0;
        for (int tenant = 0; tenant < 3; tenant++) {
            for (int what = 3; what < 10; what++) {
                all = all * 31 + x.tenant(tenant, what);
            }
        }
        return all * 31 + x.count(3);
    }

    private static void oneByOne(Due due) {
        PulseRent x = Due.housed(HOUSE);
        long[] seen = new long[9];
        seen[0] = look(x);
        x.climb(0);
        seen[1] = look(x);
        x.fright(2, 50);
        seen[2] = look(x);
        x.drink(0);
        seen[3] = look(x);
        x.minutes(7);
        seen[4] = look(x);
        x.move(1, 2);
        seen[5] = look(x);
        x.noon();
        seen[6] = look(x);
        due.is("dot is EVICTED", x.tenant(2, 9), 1);
        x.move(0, 1);
        seen[7] = look(x);
        for (int left = 6; left >= 0; left--) {
            due.is("count(11)", x.count(11), left + 1);
            due.is("undo()", x.undo(), true);
            due.is("as it was, " + left, look(x), seen[left]);
        }
        due.is("nothing is left", x.undo(), false);
        due.is("all as told", look(x), seen[0]);
        due.is("count(11)", x.count(11), 0);
    }

    private static void lastSixteen(Due due) {
        PulseRent x = Due.housed(HOUSE);
        for (int i = 1; i <= 40; i++) {
            due.is("climb", x.climb(0), 40 * i);
            due.is("count(11)", x.count(11), Math.min(16, i));
        }
        for (int i = 0; i < 16; i++) {
            due.is("undo()", x.undo(), true);
        }
        due.is("no more", x.undo(), false);
        due.is("16 are undone", x.tenant(0, 5), 40 * 24);
        for (int i = 0; i < 5; i++) {
            x.minutes(i + 1);
        }
        due.is("undo()", x.undo(), true);
        due.is("minutes of a call at once", x.count(3), 10);
        due.is("count(11)", x.count(11), 4);
    }

    private static void notUndone(Due due) {
        PulseRent x = Due.housed(HOUSE);
        x.climb(1);
        x.climb(9);
        x.fright(0, 0);
        x.fright(1, 9);
        x.drink(1);
        x.minutes(0);
        x.move(0, 1);
        due.is("what can't be is nothing to undo", x.count(11), 0);
        x.climb(0);
        x.sample(0, 60);
        x.mark(0, false);
        Due.months(x, "noon ;");
        due.is("SAMPLES, MARKS, MONTHS are none either", x.count(11), 1);
        x.undo();
        due.is("SAMPLES stay", x.count(10), 1);
        due.is("MONTHS stay", x.count(9), 1);
        due.is("MARKS stay", x.mark(0, true), true);
        due.is("climbed again", x.tenant(0, 5), 40);
    }

    private static void marks(Due due) {
        PulseRent x = Due.housed(HOUSE);
        due.is("mark(-1, false)", x.mark(-1, false), false);
        due.is("mark(4, false)", x.mark(4, false), false);
        due.is("mark(-1, true)", x.mark(-1, true), false);
        due.is("mark(4, true)", x.mark(4, true), false);
        for (int mark = 0; mark < 4; mark++) {
            due.is("nothing is on it", x.mark(mark, true), false);
        }
        x.climb(0);
        x.drink(2);
        x.minutes(3);
        x.sample(1, 77);
        long seen = look(x);
        due.is("laid", x.mark(3, false), true);
        x.sample(2, 60);
        x.fright(0, 90);
        x.minutes(9);
        x.move(1, 2);
        x.noon();
        due.is("EVICTED", x.count(6), 2);
        due.is("another is empty", x.mark(0, true), false);
        due.is("gone back to", x.mark(3, true), true);
        due.is("all as it was", look(x), seen);
        due.is("nobody is EVICTED", x.count(6), 0);
        due.is("SAMPLES", x.count(10), 1);
        due.is("nothing can be undone", x.count(11), 0);
        due.is("undo()", x.undo(), false);
        x.minutes(1);
        due.is("undo() of what came then", x.undo(), true);
        due.is("to the MARK, no further", look(x), seen);
        due.is("undo()", x.undo(), false);
    }

    private static void marksAreCopies(Due due) {
        PulseRent x = Due.housed(HOUSE);
        x.mark(0, false);
        x.climb(0);
        x.sample(0, 60);
        x.mark(1, false);
        x.climb(0);
        x.sample(0, 61);
        x.mark(0, true);
        due.is("0", x.tenant(0, 5), 0);
        due.is("no SAMPLE", x.count(10), 0);
        x.climb(2);
        x.sample(3, 3);
        x.mark(1, true);
        due.is("1", x.tenant(0, 5), 40);
        due.is("a SAMPLE", x.count(10), 1);
        due.is("that of minute 0, 60", x.days(0), 243);
        due.is("ann did nothing", x.did(0, 0), 0);
        x.mark(0, true);
        due.is("0 again", x.tenant(2, 5), 0);
        x.climb(0);
        x.climb(0);
        x.mark(0, false);
        x.climb(0);
        x.mark(0, true);
        due.is("laid anew", x.tenant(0, 5), 80);
    }
}
