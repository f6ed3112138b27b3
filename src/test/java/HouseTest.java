/** Promise 3: house, its tokens and FAULTS. */
public final class HouseTest {
    private static final String ROOM = "room aa stairs 1 noise 1 base 1 ; ";
    private static final String TWO = ROOM + "tenant bb plain rest 40 calm 0 coins 0 in aa ; "
            + "tenant cc monk rest 40 calm 0 coins 0 ; ";

    public static void main(String[] args) {
        Due due = new Due("HouseTest");
        edges(due);
        tokens(due);
        shapes(due);
        names(due);
        numbers(due);
        tooMany(due);
        twice(due);
        allStays(due);
        anew(due);
        due.end();
    }

    private static void edges(Due due) {
        PulseRent x = new PulseRent();
        due.is("least numbers", Due.house(x, "room a stairs 0 noise 0 base 0 ; tenant t plain rest 40"
                + " calm 0 coins 0 in a ; errand e opens 0 takes 1 adds 0 ; coffee 0 lasts 1 ; every 1 ;"), 0);
        due.is("coffee 0", x.count(7), 0);
        due.is("greatest numbers", Due.house(x, "room a stairs 60 noise 20 base 999 ; tenant t sick rest 99"
                + " calm 40 coins 9999 in a ; errand e opens 99 takes 20 adds 60 ; coffee 60 lasts 120 ; every 30 ;"), 0);
        due.is("room(0, 0)", x.room(0, 0), 60);
        due.is("room(0, 1)", x.room(0, 1), 20);
        due.is("room(0, 2)", x.room(0, 2), 999);
        due.is("tenant(0, 0)", x.tenant(0, 0), 3);
        due.is("tenant(0, 1)", x.tenant(0, 1), 99);
        due.is("tenant(0, 2)", x.tenant(0, 2), 40);
        due.is("tenant(0, 3)", x.tenant(0, 3), 9999);
        due.is("count(7)", x.count(7), 60);
        due.is("count(8)", x.count(8), 30);
        due.is("nothing is a HOUSE", Due.house(x, " \n "), 0);
        due.is("count(0)", x.count(0), 0);
        due.is("count(7)", x.count(7), 20);
        due.is("count(8)", x.count(8), 1);
    }

    private static void tokens(Due due) {
        PulseRent x = new PulseRent();
        due.is("no blanks but where words meet",
                Due.house(x, "room a stairs 1noise 2base\n3;tenant b runner rest 50calm 1coins 2in a;every 4;"), 0);
        due.is("room(0, 2)", x.room(0, 2), 3);
        due.is("tenant(0, 4)", x.tenant(0, 4), 0);
        due.is("count(8)", x.count(8), 4);
        due.is("digits right behind letters", Due.house(x, "every0012;"), 0);
        due.is("count(8)", x.count(8), 12);
        due.is("a word of 8", Due.house(x, "room abcdefgh stairs 1 noise 1 base 1 ;"), 0);
        due.faultyHouse(x, 1, "room ^abcdefghi stairs 1 noise 1 base 1 ;");
        due.faultyHouse(x, 1, "every ^00001 ;");
        due.faultyHouse(x, 1, "^Every 1 ;");
        due.faultyHouse(x, 1, "every 1 ^, ;");
        due.faultyHouse(x, 1, "every 1 ; ^;");
        due.faultyHouse(x, 1, "every 1 ; ^7");
        due.faultyHouse(x, 1, "every 1 ; ^( ");
    }

    private static void shapes(Due due) {
        PulseRent x = new PulseRent();
        due.faultyHouse(x, 1, "every 1^");
        due.faultyHouse(x, 1, "every 1 \n ^");
        due.faultyHouse(x, 1, "^stairs 1 ;");
        due.faultyHouse(x, 1, "^climb aa ;");
        due.faultyHouse(x, 1, "^foo ;");
        due.faultyHouse(x, 1, "room ^stairs stairs 1 noise 1 base 1 ;");
        due.faultyHouse(x, 1, "room ^3 stairs 1 noise 1 base 1 ;");
        due.faultyHouse(x, 1, "room a ^noise 1 stairs 1 base 1 ;");
        due.faultyHouse(x, 1, "room a ^1 noise 1 base 1 ;");
        due.faultyHouse(x, 1, "room a stairs ^x noise 1 base 1 ;");
        due.faultyHouse(x, 1, "room a stairs 1 noise 1 base 1 ^room");
        due.faultyHouse(x, 1, "room a stairs ^- 1 noise 1 base 1 ;");
        due.faultyHouse(x, 1, "tenant t ^cat rest 40 calm 0 coins 0 ;");
        due.faultyHouse(x, 1, "tenant t ^rest 40 calm 0 coins 0 ;");
        due.faultyHouse(x, 1, "tenant t sick rest 40 calm 0 coins 0 ^at");
        due.faultyHouse(x, 1, "tenant t sick rest 40 calm 0 coins 0 in ^;");
        due.faultyHouse(x, 1, "tenant t sick rest 40 calm 0 coins 0 in ^in");
        due.faultyHouse(x, 1, TWO + "loves ^; ");
        due.faultyHouse(x, 1, TWO + "loves bb ^or ; ");
        due.faultyHouse(x, 1, "errand e opens 1 takes 1 ^; ");
        due.faultyHouse(x, 1, "coffee 1 ^; ");
        due.faultyHouse(x, 1, "coffee ^lasts 1 ; ");
        due.faultyHouse(x, 1, "every ^; ");
    }

    private static void names(Due due) {
        PulseRent x = new PulseRent();
        String[] reserved = ("room stairs noise base tenant rest calm coins in loves errand opens takes adds"
                + " coffee lasts every due wish climb fright drink minutes noon move plain monk runner sick"
                + " not and or").split(" ");
        for (String word : reserved) {
            due.faultyHouse(x, 1, "errand ^" + word + " opens 0 takes 1 adds 0 ;");
        }
        due.is("facts may be NAMES", Due.house(x, "room beats stairs 1 noise 1 base 1 ; tenant floor plain rest 40"
                + " calm 0 coins 0 in beats ; tenant kind plain rest 40 calm 0 coins 0 ; loves kind floor ;"
                + " errand steps opens 0 takes 1 adds 0 ; errand loud opens 0 takes 1 adds 0 ; due beats + floor ;"), 0);
        due.faultyHouse(x, 3, TWO + "room ^bb stairs");
        due.faultyHouse(x, 3, TWO + "room ^aa stairs");
        due.faultyHouse(x, 3, TWO + "tenant ^aa plain");
        due.faultyHouse(x, 3, TWO + "tenant ^cc plain");
        due.faultyHouse(x, 3, TWO + "errand ^cc opens");
        due.faultyHouse(x, 3, "errand ee opens 1 takes 1 adds 1 ; tenant ^ee plain");
        due.faultyHouse(x, 2, TWO + "tenant dd sick rest 40 calm 0 coins 0 in ^zz ;");
        due.faultyHouse(x, 2, TWO + "tenant dd sick rest 40 calm 0 coins 0 in ^bb ;");
        due.faultyHouse(x, 2, TWO + "tenant dd sick rest 40 calm 0 coins 0 in ^dd ;");
        due.faultyHouse(x, 3, TWO + "tenant dd sick rest 40 calm 0 coins 0 in ^aa ;");
        due.faultyHouse(x, 2, TWO + "loves ^aa bb ;");
        due.faultyHouse(x, 2, TWO + "loves ^zz bb ;");
        due.faultyHouse(x, 2, TWO + "loves bb ^aa ;");
        due.faultyHouse(x, 3, TWO + "loves bb ^bb ;");
        due.faultyHouse(x, 3, TWO + "loves bb cc ; loves bb ^cc ;");
        due.is("each may love the other", Due.house(x, TWO + "loves bb cc ; loves cc bb ;"), 0);
    }

    private static void numbers(Due due) {
        PulseRent x = new PulseRent();
        due.faultyHouse(x, 4, "room a stairs ^61 noise");
        due.faultyHouse(x, 4, "room a stairs 1 noise ^21 base");
        due.faultyHouse(x, 4, "room a stairs 1 noise 1 base ^1000 ;");
        due.faultyHouse(x, 4, "tenant t plain rest ^39 calm");
        due.faultyHouse(x, 4, "tenant t plain rest ^100 calm");
        due.faultyHouse(x, 4, "tenant t plain rest 99 calm ^41");
        due.faultyHouse(x, 1, "tenant t plain rest 99 calm 40 coins ^10000 ;");
        due.faultyHouse(x, 4, "errand e opens ^100 takes");
        due.faultyHouse(x, 4, "errand e opens 99 takes ^0");
        due.faultyHouse(x, 4, "errand e opens 99 takes ^21");
        due.faultyHouse(x, 4, "errand e opens 99 takes 20 adds ^61");
        due.faultyHouse(x, 4, "coffee ^61");
        due.faultyHouse(x, 4, "coffee 60 lasts ^0");
        due.faultyHouse(x, 4, "coffee 60 lasts ^121");
        due.faultyHouse(x, 4, "every ^0");
        due.faultyHouse(x, 4, "every ^31");
    }

    private static void tooMany(Due due) {
        StringBuilder rooms = new StringBuilder();
        StringBuilder tenants = new StringBuilder();
        StringBuilder errands = new StringBuilder();
        for (char c = 'a'; c < 'g'; c++) {
            rooms.append("room r").append(c).append(" stairs 1 noise 1 base 1 ; ");
            tenants.append("tenant t").append(c).append(" plain rest 40 calm 0 coins 0 in r").append(c).append(" ; ");
            errands.append("errand e").append(c).append(" opens 1 takes 1 adds 1 ; ");
        }
        String six = rooms.toString() + tenants + errands;
        PulseRent x = new PulseRent();
        due.is("6 of each", Due.house(x, six), 0);
        due.is("count(0)", x.count(0), 6);
        due.is("count(1)", x.count(1), 6);
        due.is("count(2)", x.count(2), 6);
        due.is("count(5)", x.count(5), 6);
        due.is("room(5, 3)", x.room(5, 3), 5);
        for (int tenant = 0; tenant < 6; tenant++) {
            due.is("match(" + tenant + ")", x.match(tenant), tenant);
        }
        x.minutes(1);
        due.is("noon()", x.noon(), 0);
        due.is("count(6)", x.count(6), 6);
        due.is("tenant(5, 9)", x.tenant(5, 9), 1);
        due.is("tenant(5, 4)", x.tenant(5, 4), PulseRent.NONE);
        due.is("for good", x.move(5, 5), false);
        due.faultyHouse(x, 5, six + "^room");
        due.faultyHouse(x, 5, six + "^tenant ta");
        due.faultyHouse(x, 5, six + "^errand !");
        due.is("all stays", x.count(0), 6);
    }

    private static void twice(Due due) {
        PulseRent x = new PulseRent();
        due.faultyHouse(x, 3, "coffee 1 lasts 1 ; ^coffee 1 lasts 1 ;");
        due.faultyHouse(x, 3, "every 1 ; ^every 0 ;");
        due.faultyHouse(x, 3, "due 1 ; ^due loud ;");
        due.faultyHouse(x, 3, "wish 1 ; ^wish");
        due.is("each once", Due.house(x, "wish 1 ; due 1 ; every 2 ; coffee 3 lasts 4 ;"), 0);
    }

    private static void allStays(Due due) {
        PulseRent x = Due.housed(TWO + "every 2 ;");
        due.is("months()", Due.months(x, "noon ; noon ;"), 0);
        x.minutes(5);
        x.sample(0, 50);
        x.mark(2, false);
        due.faultyHouse(x, 4, ROOM + "every ^31 ;");
        due.is("count(1)", x.count(1), 2);
        due.is("count(3)", x.count(3), 5);
        due.is("count(8)", x.count(8), 2);
        due.is("count(9)", x.count(9), 2);
        due.is("count(10)", x.count(10), 1);
        due.is("count(11)", x.count(11), 1);
        due.is("mark(2, true)", x.mark(2, true), true);
    }

    private static void anew(Due due) {
        PulseRent x = Due.housed(TWO + "due 1 ; wish 0 - floor ; coffee 9 lasts 9 ; every 2 ;");
        Due.months(x, "noon ;");
        x.climb(0);
        x.fright(0, 50);
        x.drink(0);
        x.minutes(3);
        x.noon();
        x.sample(0, 50);
        x.move(1, 0);
        x.minutes(1);
        x.mark(1, false);
        due.is("evicted", x.count(6), 1);
        due.is("house()", Due.house(x, TWO), 0);
        int[] counts = {1, 2, 0, 0, 0, 1, 0, 20, 1, 0, 0, 0, 0};
        for (int what = 0; what < counts.length; what++) {
            due.is("anew: count(" + what + ")", x.count(what), counts[what]);
        }
        for (int what = 5; what <= 9; what++) {
            due.is("anew: tenant(0, " + what + ")", x.tenant(0, what), 0);
            due.is("anew: tenant(1, " + what + ")", x.tenant(1, what), 0);
        }
        due.is("anew: tenant(0, 4)", x.tenant(0, 4), 0);
        due.is("anew: owed(0) by beats + floor", x.owed(0), 1);
        due.is("anew: undo()", x.undo(), false);
        due.is("anew: mark(1, true)", x.mark(1, true), false);
        // nothing of the first HOUSE is left in a third one, nor of one with a FAULT
        Due.house(x, "due 7 ; wish 7 ; coffee 1 lasts 1 ; every 5 ; !");
        due.is("house()", Due.house(x, TWO + "due 2 ; "), 0);
        due.is("third: owed(0)", x.owed(0), 2);
        due.is("third: every", x.count(8), 1);
        due.is("third: coffee", x.count(7), 20);
        x.drink(0);
        due.is("third: lasts", x.tenant(0, 6), 30);
    }
}
