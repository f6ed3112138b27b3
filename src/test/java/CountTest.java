/** Promise 33: count. */
public final class CountTest {
    public static void main(String[] args) {
        Due due = new Due("CountTest");
        PulseRent x = Due.housed("room a stairs 1 noise 1 base 1 ; room b stairs 1 noise 1 base 1 ; "
                + "tenant t plain rest 40 calm 0 coins 30 in b ; tenant u plain rest 40 calm 0 coins 500 in a ; "
                + "tenant v sick rest 40 calm 0 coins 7 ; errand e opens 0 takes 1 adds 0 ; coffee 33 lasts 3 ; every 4 ;");
        all(due, x, 2, 3, 1, 0, 537, 2, 0, 33, 4, 0, 0, 0, 0);
        Due.months(x, "noon ; minutes 4 ; noon ;");
        all(due, x, 2, 3, 1, 0, 537, 2, 0, 33, 4, 3, 0, 0, 0);
        x.sample(1, 1);
        x.minutes(2);
        x.noon();
        Due.feed(x, "every");
        // u owes 41 * 4 + 1 and pays it, t is EVICTED with his 30
        all(due, x, 2, 3, 1, 2, 372, 1, 1, 33, 4, 3, 1, 2, 5);
        x.move(2, 1);
        x.undo();
        x.undo();
        all(due, x, 2, 3, 1, 2, 537, 2, 0, 33, 4, 3, 1, 1, 5);
        due.is("count(-1)", x.count(-1), PulseRent.NONE);
        due.is("count(13)", x.count(13), PulseRent.NONE);
        due.is("count(min)", x.count(Integer.MIN_VALUE), PulseRent.NONE);
        due.is("NONE", PulseRent.NONE, -1);
        due.end();
    }

    private static void all(Due due, PulseRent x, int... want) {
        for (int what = 0; what < want.length; what++) {
            due.is("count(" + what + ")", x.count(what), want[what]);
        }
    }
}
