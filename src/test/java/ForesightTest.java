/** Promises 16 to 18 and 26: owed, will, last, law. */
public final class ForesightTest {
    private static final int NONE = PulseRent.NONE;
    private static final String HOUSE = "room attic stairs 40 noise 2 base 10 ; room cellar stairs 0 noise 9 base 5 ; "
            + "room hall stairs 15 noise 0 base 30 ; tenant ann plain rest 60 calm 10 coins 700 in attic ; "
            + "tenant bob monk rest 50 calm 30 coins 300 in cellar ; tenant cid runner rest 55 calm 0 coins 50 ; "
            + "tenant dot sick rest 70 calm 5 coins 100 in hall ; loves ann bob ; every 2 ; coffee 20 lasts 3 ; ";

    public static void main(String[] args) {
        Due due = new Due("ForesightTest");
        owed(due);
        will(due);
        last(due);
        lastOfOthers(due);
        law(due);
        due.end();
    }

    private static void owed(Due due) {
        PulseRent x = Due.housed(HOUSE);
        due.is("owed(0)", x.owed(0), 10);
        x.minutes(3);
        due.is("owed(0)", x.owed(0), 290);
        due.is("owed(3)", x.owed(3), 390);
        due.is("out", x.owed(2), NONE);
        due.is("owed(4)", x.owed(4), NONE);
        due.is("owed(-1)", x.owed(-1), NONE);
        due.is("0 at least", Due.housed(HOUSE + "due floor - 11 ;").owed(0), 0);
        due.is("9999 at most", Due.housed(HOUSE + "due floor * 9999 ;").owed(0), 9999);
    }

    private static void will(Due due) {
        PulseRent x = Due.housed(HOUSE);
        x.climb(0);
        x.drink(0);
        x.minutes(1);
        due.is("what was", x.will(0, 0), 260);
        due.is("nothing ahead of 1", x.will(0, 1), 260);
        // minute 2: stirred by 10, COFFEE for a last minute; minute 4: by 2
        due.is("ahead of 2", x.will(0, 2), 260 + 200);
        due.is("ahead of 4", x.will(0, 4), 460 + 144);
        due.is("240 minutes", x.will(1, 240), 121 * 118);
        due.is("241", x.will(0, 241), NONE);
        due.is("-1", x.will(0, -1), NONE);
        due.is("out", x.will(2, 5), NONE);
        due.is("will(4, 5)", x.will(4, 5), NONE);
        due.is("nothing passes", x.count(3), 1);
        due.is("nothing is counted", x.tenant(0, 8), 260);
        due.is("nothing to undo more", x.count(11), 3);
    }

    private static void last(Due due) {
        PulseRent x = Due.housed(HOUSE);
        due.is("ann", x.last(0, 2), 4);
        due.is("bob", x.last(1, 2), 2);
        due.is("dot", x.last(3, 2), 0);
        due.is("out", x.last(2, 2), NONE);
        due.is("last(4, 2)", x.last(4, 2), NONE);
        due.is("last(0, 0)", x.last(0, 0), NONE);
        due.is("last(0, 241)", x.last(0, 241), NONE);
        due.is("last(0, 240)", x.last(0, 240), 0);
        // ann: 150 at every other noon, 10 else
        due.is("noons of one minute", x.last(0, 1), 8);
        due.is("nobody is EVICTED", x.count(6), 0);
        due.is("coins stay", x.count(4), 1150);
        String poor = "room r stairs 0 noise 0 base 0 ; tenant t sick rest 40 calm 0 coins 250 in r ; ";
        due.is("credit pays too", Due.housed(poor + "due 100 ;").last(0, 5), 3);
        due.is("20 at most", Due.housed(poor + "due 99 ;").last(0, 240), 20);
        due.is("20 at most", Due.housed(poor + "due 0 ;").last(0, 1), 20);
        PulseRent counted = Due.housed(HOUSE);
        counted.minutes(2);
        counted.minutes(2);
        counted.minutes(2);
        counted.minutes(2);
        // 560 are counted, 140 more come: 710
        due.is("what was counted is due, too", counted.last(0, 2), 0);
        due.is("a minute less", counted.last(1, 1), 0);
    }

    private static void lastOfOthers(Due due) {
        // bob is EVICTED by the first noon: ann's heart then goes slower by 8
        PulseRent x = Due.housed("room a stairs 0 noise 0 base 0 ; room b stairs 0 noise 0 base 0 ; "
                + "tenant ann plain rest 60 calm 0 coins 188 in a ; tenant bob plain rest 60 calm 0 coins 0 in b ; "
                + "loves ann bob ; ");
        due.is("68, 60, 60", x.last(0, 1), 3);
    }

    private static void law(Due due) {
        PulseRent x = Due.housed(HOUSE);
        due.is("law(60, 3)", x.law(60, 3), 10);
        due.is("law(0, 3)", x.law(0, 3), 8);
        due.is("law(20, 3)", x.law(20, 3), 10);
        // dot owes 90 * 2 + 30 and has 100 and 99 of credit
        due.is("law(0, 1)", x.law(0, 1), 8);
        due.is("law(60, 240)", x.law(60, 240), 11);
        due.is("law(61, 3)", x.law(61, 3), NONE);
        due.is("law(-1, 3)", x.law(-1, 3), NONE);
        due.is("law(5, 0)", x.law(5, 0), NONE);
        due.is("law(5, 241)", x.law(5, 241), NONE);
        due.is("nobody is EVICTED", x.count(6), 0);
        due.is("no COFFEE", x.tenant(0, 6), 0);
        due.is("the told coffee", x.count(7), 20);
        // two counted minutes with coffee, as it lasts 3: 2 * (2 * 119) + (2 * 59) and so on
        due.is("lasts as told", Due.housed("room r stairs 0 noise 0 base 0 ; tenant t plain rest 50 calm 0"
                + " coins 360 in r ; coffee 1 lasts 2 ;").law(5, 7), 0);
        due.is("one more", Due.housed("room r stairs 0 noise 0 base 0 ; tenant t plain rest 50 calm 0"
                + " coins 359 in r ; coffee 1 lasts 2 ;").law(5, 7), 1);
        PulseRent before = Due.housed(HOUSE);
        before.minutes(2);
        before.noon();
        due.is("dot is EVICTED already", before.tenant(3, 9), 1);
        due.is("so not by this noon", before.law(0, 1), 0);
    }
}
