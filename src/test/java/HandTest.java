/** Promises 5 to 13: what is seen of rooms and tenants, and months by hand. */
public final class HandTest {
    private static final int NONE = PulseRent.NONE;
    private static final String HOUSE = "room attic stairs 40 noise 2 base 10 ; room cellar stairs 0 noise 9 base 5 ; "
            + "room hall stairs 15 noise 0 base 30 ; room den stairs 7 noise 1 base 0 ; "
            + "tenant ann plain rest 60 calm 10 coins 700 in attic ; tenant bob monk rest 50 calm 30 coins 300 in cellar ; "
            + "tenant cid runner rest 55 calm 0 coins 50 ; tenant dot sick rest 70 calm 5 coins 100 in hall ; loves ann bob ; ";

    public static void main(String[] args) {
        Due due = new Due("HandTest");
        rooms(due);
        tenants(due);
        pulses(due);
        climbs(due);
        frights(due);
        drinks(due);
        minutes(due);
        counting(due);
        noons(due);
        credit(due);
        moves(due);
        due.end();
    }

    private static void rooms(Due due) {
        PulseRent x = Due.housed(HOUSE);
        int[][] want = {{40, 2, 10, 0}, {0, 9, 5, 1}, {15, 0, 30, 3}, {7, 1, 0, NONE}};
        for (int room = 0; room < 4; room++) {
            for (int what = 0; what < 4; what++) {
                due.is("room(" + room + ", " + what + ")", x.room(room, what), want[room][what]);
            }
        }
        due.is("room(4, 0)", x.room(4, 0), NONE);
        due.is("room(-1, 3)", x.room(-1, 3), NONE);
        due.is("room(0, 4)", x.room(0, 4), NONE);
        due.is("room(0, -1)", x.room(0, -1), NONE);
        due.is("room of the greatest numbers", x.room(Integer.MAX_VALUE, Integer.MIN_VALUE), NONE);
    }

    private static void tenants(Due due) {
        PulseRent x = Due.housed(HOUSE);
        int[][] want = {{0, 60, 10, 700, 0, 0, 0, 0, 0, 0}, {1, 50, 30, 300, 1, 0, 0, 0, 0, 0},
            {2, 55, 0, 50, NONE, 0, 0, 0, 0, 0}, {3, 70, 5, 100, 2, 0, 0, 0, 0, 0}};
        for (int tenant = 0; tenant < 4; tenant++) {
            for (int what = 0; what < 10; what++) {
                due.is("tenant(" + tenant + ", " + what + ")", x.tenant(tenant, what), want[tenant][what]);
            }
        }
        due.is("tenant(4, 0)", x.tenant(4, 0), NONE);
        due.is("tenant(-1, 0)", x.tenant(-1, 0), NONE);
        due.is("tenant(0, 10)", x.tenant(0, 10), NONE);
        due.is("tenant(0, -1)", x.tenant(0, -1), NONE);
    }

    private static void pulses(Due due) {
        PulseRent x = Due.housed(HOUSE + "loves cid ann ; loves cid dot ; ");
        due.is("ann, her love in", x.pulse(0), 60 + 8 + 2);
        due.is("bob, loved", x.pulse(1), 50 + 9);
        due.is("cid is out", x.pulse(2), NONE);
        due.is("dot, sick", x.pulse(3), 70 + 20);
        due.is("pulse(4)", x.pulse(4), NONE);
        due.is("pulse(-1)", x.pulse(-1), NONE);
        x.move(2, 3);
        due.is("cid, two loves in, 8 once", x.pulse(2), 55 + 8 + 1);
        PulseRent alone = Due.housed(HOUSE + "loves dot cid ; ");
        due.is("a love who is out", alone.pulse(3), 90);
        PulseRent most = Due.housed("room r stairs 60 noise 20 base 0 ; tenant t sick rest 99 calm 0 coins 0 in r ;"
                + " coffee 60 lasts 2 ;");
        due.is("139", most.pulse(0), 139);
        most.drink(0);
        due.is("199", most.pulse(0), 199);
        most.fright(0, 41);
        due.is("240", most.pulse(0), 240);
        most.fright(0, 2);
        due.is("240 at most", most.pulse(0), 240);
        most.minutes(1);
        due.is("240 are counted", most.tenant(0, 8), 240);
    }

    private static void climbs(Due due) {
        PulseRent x = Due.housed(HOUSE);
        due.is("climb(0)", x.climb(0), 40);
        due.is("climb(0) again", x.climb(0), 80);
        due.is("pulse(0)", x.pulse(0), 150);
        due.is("no stairs", x.climb(1), 0);
        due.is("out", x.climb(2), NONE);
        due.is("climb(4)", x.climb(4), NONE);
        due.is("climb(-1)", x.climb(-1), NONE);
        due.is("move", x.move(2, 3), true);
        due.is("a runner's half, cut", x.climb(2), 3);
        due.is("sick", x.climb(3), 15);
        due.is("count(11)", x.count(11), 6);
    }

    private static void frights(Due due) {
        PulseRent x = Due.housed(HOUSE);
        due.is("by 1", x.fright(0, 50), 40);
        due.is("by 2", x.fright(0, 50), 60);
        due.is("by 3, cut", x.fright(0, 50), 73);
        due.is("HABIT", x.tenant(0, 7), 3);
        due.is("calm", x.fright(1, 30), 0);
        due.is("HABIT all the same", x.tenant(1, 7), 1);
        due.is("one above calm by 2, cut", x.fright(1, 31), 0);
        due.is("HABIT stays over noons", x.noon() >= 0 ? x.tenant(1, 7) : 0, 2);
        due.is("HABIT stays over minutes", x.minutes(120) > 0 ? x.tenant(1, 7) : 0, 2);
        due.is("fright(3, 1)", x.fright(3, 1), 0);
        due.is("fright(3, 99)", x.fright(3, 99), 47);
        due.is("fright(3, 0)", x.fright(3, 0), NONE);
        due.is("fright(3, 100)", x.fright(3, 100), NONE);
        due.is("HABIT is not more", x.tenant(3, 7), 2);
        due.is("out", x.fright(2, 50), NONE);
        due.is("fright(4, 50)", x.fright(4, 50), NONE);
    }

    private static void drinks(Due due) {
        PulseRent x = Due.housed(HOUSE);
        due.is("drink(0)", x.drink(0), true);
        due.is("30 minutes untold", x.tenant(0, 6), 30);
        due.is("20 beats untold", x.pulse(0), 90);
        x.minutes(29);
        due.is("a minute yet", x.tenant(0, 6), 1);
        due.is("pulse(0)", x.pulse(0), 90);
        due.is("drink(0) again", x.drink(0), true);
        due.is("as it lasts, no more", x.tenant(0, 6), 30);
        x.minutes(30);
        due.is("gone", x.tenant(0, 6), 0);
        due.is("pulse(0)", x.pulse(0), 70);
        x.minutes(1);
        due.is("not below", x.tenant(0, 6), 0);
        due.is("out", x.drink(2), false);
        due.is("drink(4)", x.drink(4), false);
        due.is("drink(-1)", x.drink(-1), false);
        due.is("count(11)", x.count(11), 5);
    }

    private static void minutes(Due due) {
        PulseRent x = Due.housed(HOUSE + "due 9999 ; ");
        due.is("minutes(0)", x.minutes(0), NONE);
        due.is("minutes(121)", x.minutes(121), NONE);
        due.is("minutes(-1)", x.minutes(-1), NONE);
        x.climb(0);
        x.fright(1, 99);
        x.climb(3);
        due.is("minutes(1)", x.minutes(1), 1);
        due.is("half", x.tenant(0, 5), 20);
        due.is("a monk's quarter, cut", x.tenant(1, 5), 17);
        due.is("half, cut", x.tenant(3, 5), 7);
        due.is("minutes(2)", x.minutes(2), 3);
        due.is("ann", x.tenant(0, 5), 5);
        due.is("bob", x.tenant(1, 5), 1);
        due.is("dot", x.tenant(3, 5), 1);
        x.fright(0, 99);
        x.drink(0);
        x.noon();
        due.is("all are evicted", x.count(5), 0);
        due.is("minutes(120)", x.minutes(1), 4);
        due.is("out, half all the same", x.tenant(0, 5), 47);
        due.is("out, a minute of COFFEE is gone", x.tenant(0, 6), 29);
        due.is("out, nothing is counted", x.tenant(0, 8), 0);
        due.is("minutes(120)", x.minutes(120), 124);
    }

    private static void counting(Due due) {
        PulseRent x = Due.housed(HOUSE + "every 3 ; ");
        x.climb(0);
        x.minutes(1);
        due.is("ahead of minute 0, stirred", x.tenant(0, 8), 110 * 3);
        x.minutes(2);
        due.is("not ahead of 1 and 2", x.tenant(0, 8), 330);
        x.minutes(1);
        due.is("ahead of 3, stirred by 5", x.tenant(0, 8), 330 + 75 * 3);
        due.is("bob", x.tenant(1, 8), 2 * 59 * 3);
        due.is("cid, out", x.tenant(2, 8), 0);
        x.noon();
        due.is("nothing behind a noon", x.tenant(0, 8), 0);
        x.minutes(2);
        due.is("noons do not begin the minutes anew", x.tenant(0, 8), 0);
        x.minutes(1);
        due.is("ahead of 6, bob being EVICTED", x.tenant(0, 8), 62 * 3);
    }

    private static void noons(Due due) {
        PulseRent x = Due.housed(HOUSE);
        due.is("floors alone", x.noon(), 10 + 5 + 30);
        due.is("ann", x.tenant(0, 3), 690);
        due.is("cid, out", x.tenant(2, 3), 50);
        due.is("coins of all", x.count(4), 1150 - 45);
        x.minutes(5);
        // ann 360, bob 300 of 295, dot 480 of 70
        due.is("who has not enough pays nothing", x.noon(), 360);
        due.is("bob is EVICTED", x.tenant(1, 9), 1);
        due.is("with his coins", x.tenant(1, 3), 295);
        due.is("out", x.tenant(1, 4), NONE);
        due.is("dot is EVICTED", x.tenant(3, 9), 1);
        due.is("her room", x.room(2, 3), NONE);
        due.is("count(5)", x.count(5), 1);
        due.is("count(6)", x.count(6), 2);
        due.is("nothing is counted", x.tenant(1, 8), 0);
        due.is("ann's love is gone", x.pulse(0), 62);
        PulseRent exact = Due.housed(HOUSE + "due 700 * ( kind = 0 ) ; ");
        due.is("all that one has", exact.noon(), 700);
        due.is("in", exact.tenant(0, 9), 0);
        due.is("one short", Due.housed(HOUSE + "due 701 * ( kind = 0 ) ; ").noon(), 0);
        due.is("0 at least", Due.housed(HOUSE + "due 0 - 9 ; ").noon(), 0);
        PulseRent rich = Due.housed("room r stairs 0 noise 0 base 0 ; tenant t plain rest 40 calm 0 coins 9999 in r ;"
                + " due 9999 * 9 ;");
        due.is("9999 at most", rich.noon(), 9999);
        due.is("no coins", rich.tenant(0, 3), 0);
    }

    private static void credit(Due due) {
        String sick = "room r stairs 0 noise 0 base 0 ; tenant t sick rest 40 calm 0 coins 100 in r ; ";
        PulseRent x = Due.housed(sick + "due 199 ; ");
        due.is("short of it by 99", x.noon(), 100);
        due.is("in", x.tenant(0, 4), 0);
        due.is("no coins", x.tenant(0, 3), 0);
        due.is("short by 199", x.noon(), 0);
        due.is("EVICTED", x.tenant(0, 9), 1);
        PulseRent y = Due.housed(sick + "due 200 ; ");
        due.is("short by 100", y.noon(), 0);
        due.is("EVICTED", y.tenant(0, 9), 1);
        due.is("coins stay", y.tenant(0, 3), 100);
        PulseRent z = Due.housed("room r stairs 0 noise 0 base 0 ; tenant t sick rest 40 calm 0 coins 0 in r ; due 99 ;");
        due.is("nothing to pay with", z.noon(), 0);
        due.is("in", z.tenant(0, 9), 0);
        PulseRent plain = Due.housed("room r stairs 0 noise 0 base 0 ; tenant t runner rest 40 calm 0 coins 0 in r ; due 1 ;");
        due.is("no credit for others", plain.noon(), 0);
        due.is("EVICTED", plain.tenant(0, 9), 1);
    }

    private static void moves(Due due) {
        PulseRent x = Due.housed(HOUSE);
        due.is("where somebody is", x.move(0, 1), false);
        due.is("where he is", x.move(0, 0), false);
        due.is("move(4, 3)", x.move(4, 3), false);
        due.is("move(-1, 3)", x.move(-1, 3), false);
        due.is("move(0, 4)", x.move(0, 4), false);
        due.is("move(0, -1)", x.move(0, -1), false);
        due.is("count(11)", x.count(11), 0);
        x.climb(0);
        x.minutes(1);
        due.is("move(0, 3)", x.move(0, 3), true);
        due.is("his ROOM", x.tenant(0, 4), 3);
        due.is("the old one", x.room(0, 3), NONE);
        due.is("the new one", x.room(3, 3), 0);
        due.is("stirred yet", x.tenant(0, 5), 20);
        due.is("counted yet", x.tenant(0, 8), 110);
        due.is("the new noise", x.pulse(0), 60 + 20 + 8 + 1);
        due.is("one who is out", x.move(2, 0), true);
        due.is("count(5)", x.count(5), 4);
        x.minutes(120);
        x.noon();
        due.is("EVICTED", x.tenant(0, 9), 1);
        due.is("for good", x.move(0, 0), false);
    }
}
