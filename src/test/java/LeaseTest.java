import java.util.NoSuchElementException;

/** Promises 24 and 25: lease and share. */
public final class LeaseTest {
    private static final String HOUSE = "room attic stairs 40 noise 2 base 10 ; room cellar stairs 0 noise 9 base 5 ; "
            + "tenant ann plain rest 60 calm 10 coins 700 in attic ; tenant bob monk rest 50 calm 30 coins 300 in cellar ; "
            + "tenant cid runner rest 55 calm 0 coins 0 ; ";

    public static void main(String[] args) {
        Due due = new Due("LeaseTest");
        saved(due);
        byLaw(due);
        limits(due);
        others(due);
        due.end();
    }

    private static void saved(Due due) {
        PulseRent x = Due.housed(HOUSE);
        // 10 and 5 alone, 5 together
        due.is("lease(0, 1)", x.lease(0, 1), 10);
        due.is("lease(1, 0)", x.lease(1, 0), 10);
        due.is("share(0, 1)", x.share(0, 1), 5);
        due.is("share(1, 0)", x.share(1, 0), 0);
        x.minutes(1);
        due.is("lease(0, 1)", x.lease(0, 1), 10);
        due.is("share(0, 1)", x.share(0, 1), 67);
        due.is("nobody pays", x.count(4), 1000);
    }

    private static void byLaw(Due due) {
        // 3 if a plain one is the first, 101 if a monk is: 3 + 101 alone
        PulseRent x = Due.housed(HOUSE + "due 3 + 98 * kind ;");
        due.is("the first one's kind", x.lease(0, 1), 101);
        due.is("the first one's kind", x.lease(1, 0), 3);
        due.is("half, cut", x.share(0, 1), 3 - 50);
        due.is("half, cut", x.share(1, 0), 101 - 1);
        // beats * beats: together they owe more than each alone
        PulseRent y = Due.housed(HOUSE + "due beats * beats ; every 1 ;");
        y.minutes(1);
        due.is("nothing", y.lease(0, 1), 62 * 62 + 59 * 59 - 9999);
        int lost = 62 * 62 + 59 * 59 - 9999;
        due.is("half of a loss, cut", y.share(0, 1), 62 * 62 - lost / 2);
        due.is("half of a loss, cut", y.share(1, 0), 59 * 59 - lost / 2);
        PulseRent z = Due.housed(HOUSE + "due 10 - floor ;");
        due.is("the lesser base", z.lease(0, 1), 0 + 5 - 5);
        PulseRent loss = Due.housed(HOUSE + "due ( beats = 121 ) * 3 ;");
        loss.minutes(1);
        due.is("a loss of 3", loss.lease(0, 1), -3);
        due.is("cut towards 0", loss.share(0, 1), 1);
    }

    private static void limits(Due due) {
        PulseRent x = Due.housed(HOUSE + "due 9999 ;");
        due.is("9999 at most", x.lease(0, 1), 9999);
        PulseRent y = Due.housed(HOUSE + "due 8 - floor ;");
        // 0 (not -2) and 3 alone, 3 together
        due.is("0 at least", y.lease(0, 1), 0);
    }

    private static int thrown(PulseRent x, int tenant, int other) {
        int many = 0;
        try {
            x.lease(tenant, other);
        } catch (NoSuchElementException e) {
            many++;
        }
        try {
            x.share(tenant, other);
        } catch (NoSuchElementException e) {
            many++;
        }
        return many;
    }

    private static void others(Due due) {
        PulseRent x = Due.housed(HOUSE);
        due.is("the same", thrown(x, 0, 0), 2);
        due.is("the first is out", thrown(x, 2, 0), 2);
        due.is("the other is out", thrown(x, 0, 2), 2);
        due.is("none such", thrown(x, 0, 3), 2);
        due.is("none such", thrown(x, -1, 0), 2);
        due.is("none such", thrown(x, Integer.MIN_VALUE, Integer.MAX_VALUE), 2);
        due.is("an empty house", thrown(new PulseRent(), 0, 1), 2);
        due.is("two who are in", thrown(x, 0, 1), 0);
    }
}
