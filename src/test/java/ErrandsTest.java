/** Promise 19: errands. */
public final class ErrandsTest {
    private static final int NONE = PulseRent.NONE;
    private static final String TENANTS = "room r stairs 60 noise 20 base 0 ; "
            + "tenant ann plain rest 60 calm 10 coins 700 in r ; tenant bob monk rest 60 calm 30 coins 300 ; "
            + "tenant dot sick rest 60 calm 5 coins 100 ; ";

    public static void main(String[] args) {
        Due due = new Due("ErrandsTest");
        two(due);
        kinds(due);
        equalOnes(due);
        none(due);
        six(due);
        due.end();
    }

    private static void two(Due due) {
        PulseRent x = Due.housed(TENANTS + "errand shop opens 3 takes 2 adds 10 ; errand post opens 0 takes 1 adds 30 ;");
        // post first: 90, 90, 75, then the shop: 60 + 7 + 10, 60 + 3 + 10
        due.is("errands(0, 0)", x.errands(0, 0), 405);
        due.is("errands(0, 1)", x.errands(0, 1), 1);
        due.is("errands(0, 2)", x.errands(0, 2), 0);
        due.is("errands(0, 3)", x.errands(0, 3), NONE);
        due.is("errands(0, -1)", x.errands(0, -1), NONE);
        due.is("errands(3, 0)", x.errands(3, 0), NONE);
        due.is("errands(-1, 0)", x.errands(-1, 0), NONE);
        x.climb(0);
        x.drink(0);
        due.is("all else aside", x.errands(0, 0), 405);
        x.minutes(120);
        x.noon();
        due.is("EVICTED, all the same", x.errands(0, 0), 405);
    }

    private static void kinds(Due due) {
        PulseRent x = Due.housed(TENANTS + "errand shop opens 3 takes 2 adds 10 ; errand post opens 0 takes 1 adds 30 ;");
        // a monk's quarters: 90, 90, 67, 60 + 1 + 10, 70
        due.is("monk", x.errands(1, 0), 90 + 90 + 67 + 71 + 70);
        due.is("sick", x.errands(2, 0), 405 + 5 * 20);
        PulseRent less = Due.housed(TENANTS + "errand big opens 0 takes 1 adds 60 ; errand low opens 0 takes 1 adds 1 ;"
                + " errand far opens 2 takes 1 adds 0 ;");
        // big, low, far: 120, 60 + 60 + 1, then 30 stays in place of 1: 90; low, big, far: 61, 121, 120
        due.is("in place of less alone", less.errands(0, 0), 302);
        due.is("the order", less.errands(0, 1), 1);
        due.is("the order", less.errands(0, 2), 0);
        due.is("the order", less.errands(0, 3), 2);
        // a minute more is dear to one of 119: big, low, far in 22 minutes, stirred by 30 and less in far
        PulseRent stays = Due.housed("tenant t sick rest 99 calm 0 coins 0 ; errand big opens 0 takes 1 adds 60 ;"
                + " errand low opens 1 takes 1 adds 1 ; errand far opens 2 takes 20 adds 0 ;");
        due.is("what STIRS more stays", stays.errands(0, 0), 22 * 119 + 60 + 61 + 30 + 15 + 7 + 3 + 1);
    }

    private static void equalOnes(Due due) {
        PulseRent x = Due.housed(TENANTS + "errand a opens 0 takes 1 adds 5 ; errand b opens 0 takes 1 adds 5 ;"
                + " errand c opens 0 takes 1 adds 5 ;");
        for (int i = 0; i < 3; i++) {
            due.is("the first order", x.errands(0, 1 + i), i);
        }
        due.is("beats", x.errands(0, 0), 65 + 70 + 70);
    }

    private static void none(Due due) {
        PulseRent x = Due.housed(TENANTS);
        due.is("no errands, no beats", x.errands(0, 0), 0);
        due.is("no order", x.errands(0, 1), NONE);
        PulseRent one = Due.housed(TENANTS + "errand a opens 99 takes 20 adds 60 ;");
        due.is("waiting is counted", one.errands(0, 0), 99 * 60 + 20 * 120);
        due.is("order", one.errands(0, 1), 0);
    }

    private static void six(Due due) {
        // each opens when the one ahead is done: any other order waits longer
        PulseRent x = Due.housed(TENANTS + "errand f opens 10 takes 2 adds 0 ; errand e opens 8 takes 2 adds 0 ;"
                + " errand d opens 6 takes 2 adds 0 ; errand c opens 4 takes 2 adds 0 ; errand b opens 2 takes 2 adds 0 ;"
                + " errand a opens 0 takes 2 adds 0 ;");
        due.is("beats", x.errands(0, 0), 12 * 60);
        for (int i = 0; i < 6; i++) {
            due.is("order", x.errands(0, 1 + i), 5 - i);
        }
        due.is("errands(0, 7)", x.errands(0, 7), NONE);
    }
}
