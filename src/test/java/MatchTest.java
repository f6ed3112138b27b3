/** Promises 20 and 21: match and spare. */
public final class MatchTest {
    private static final int NONE = PulseRent.NONE;
    private static final String HOUSE = "room attic stairs 40 noise 2 base 10 ; room cellar stairs 0 noise 9 base 5 ; "
            + "room hall stairs 10 noise 0 base 30 ; tenant ann plain rest 60 calm 10 coins 700 in attic ; "
            + "tenant bob monk rest 50 calm 30 coins 300 in cellar ; tenant cid runner rest 55 calm 0 coins 0 ; "
            + "tenant dot sick rest 70 calm 5 coins 100 in hall ; ";

    public static void main(String[] args) {
        Due due = new Due("MatchTest");
        untold(due);
        evicted(due);
        told(due);
        equalOnes(due);
        spare(due);
        due.end();
    }

    private static void matched(Due due, PulseRent x, int... rooms) {
        for (int tenant = 0; tenant < rooms.length; tenant++) {
            due.is("match(" + tenant + ")", x.match(tenant), rooms[tenant]);
        }
    }

    private static void rather(Due due, String rooms, String kind, int want) {
        PulseRent x = Due.housed(rooms + "tenant t " + kind + " rest 50 calm 0 coins 0 ;");
        due.is(rooms + kind, x.match(0), want);
    }

    private static void untold(Due due) {
        PulseRent x = Due.housed(HOUSE);
        matched(due, x, 2, NONE, 0, 1);
        due.is("match(4)", x.match(4), -2);
        due.is("match(-1)", x.match(-1), -2);
        due.is("nobody moves", x.tenant(0, 4), 0);
        // a noise of 5 is as bad as 15 stairs and as 15 of base; of equal ones the first
        rather(due, "room a stairs 0 noise 5 base 0 ; room b stairs 15 noise 0 base 0 ; ", "plain", 0);
        rather(due, "room a stairs 0 noise 5 base 0 ; room b stairs 14 noise 0 base 0 ; ", "plain", 1);
        rather(due, "room a stairs 0 noise 5 base 0 ; room b stairs 0 noise 0 base 15 ; ", "sick", 0);
        rather(due, "room a stairs 0 noise 5 base 0 ; room b stairs 0 noise 0 base 14 ; ", "monk", 1);
        rather(due, "room a stairs 0 noise 5 base 0 ; room b stairs 60 noise 0 base 14 ; ", "runner", 1);
        rather(due, "room a stairs 0 noise 5 base 0 ; room b stairs 60 noise 0 base 15 ; ", "runner", 0);
        PulseRent none = Due.housed("tenant ann plain rest 60 calm 10 coins 700 ;");
        matched(due, none, NONE, -2);
    }

    private static void evicted(Due due) {
        PulseRent x = Due.housed(HOUSE + "due 9999 * ( kind = 3 ) ;");
        x.noon();
        due.is("dot is EVICTED", x.tenant(3, 9), 1);
        matched(due, x, 1, 2, 0, NONE);
        due.is("spare(0, 3)", x.spare(0, 3), NONE);
    }

    private static void told(Due due) {
        matched(due, Due.housed(HOUSE + "wish steps ;"), 2, NONE, 1, 0);
        matched(due, Due.housed(HOUSE + "wish 0 - steps ;"), 2, NONE, 0, 1);
        matched(due, Due.housed(HOUSE + "wish loud ;"), 0, NONE, 2, 1);
        matched(due, Due.housed(HOUSE + "wish floor ;"), 0, NONE, 1, 2);
        matched(due, Due.housed(HOUSE + "wish ( kind = 0 ) * floor + ( kind = 3 ) * steps ;"), 2, NONE, 1, 0);
        // wish may be any int: those that wrapped below 0 are the least
        matched(due, Due.housed(HOUSE + "wish ( steps < 20 ) * 5000 * 5000 * 100 ;"), 1, NONE, 2, 0);
    }

    private static void equalOnes(Due due) {
        matched(due, Due.housed(HOUSE + "wish 0 ;"), 1, NONE, 2, 0);
        PulseRent x = Due.housed("room a stairs 0 noise 0 base 0 ; room b stairs 0 noise 0 base 0 ; "
                + "tenant s plain rest 50 calm 0 coins 0 ; tenant t plain rest 60 calm 0 coins 0 ; "
                + "tenant u plain rest 60 calm 0 coins 0 ; tenant v sick rest 50 calm 0 coins 0 ; ");
        // the rest as told: a sick one's 20 more are none here
        matched(due, x, NONE, 0, 1, NONE);
    }

    private static void spare(Due due) {
        PulseRent x = Due.housed(HOUSE);
        due.is("spare(0, 2)", x.spare(0, 2), 0);
        due.is("spare(2, 3)", x.spare(2, 3), 0);
        due.is("one has none", x.spare(0, 1), NONE);
        due.is("one has none", x.spare(1, 0), NONE);
        due.is("the same", x.spare(0, 0), NONE);
        due.is("spare(0, 4)", x.spare(0, 4), NONE);
        due.is("spare(-1, 0)", x.spare(-1, 0), NONE);
        due.is("spare(4, 4)", x.spare(4, 4), NONE);
        PulseRent y = Due.housed(HOUSE + "wish 0 ;");
        due.is("alike is not rather", y.spare(0, 3), 0);
    }
}
