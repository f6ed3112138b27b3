/** The boundary cases of promises 3 and 4: what a HOUSE and MONTHS may tell, a sentence each. */
public final class HouseEdgesTest {
    private static final int NONE = PulseRent.NONE;
    private static final String[] KINDS = {"plain", "monk", "runner", "sick"};
    private static final String TENANT = "tenant tt plain rest 40 calm 0 coins 0 ; ";
    private static final String RESERVED = "room stairs noise base tenant rest calm coins in loves errand opens takes adds"
            + " coffee lasts every due wish climb fright drink minutes noon move plain monk runner sick not and or";

    public static void main(String[] args) {
        Due due = new Due("HouseEdgesTest");
        anyNumber(due);
        bounds(due);
        untold(due);
        kinds(due);
        sixRooms(due);
        sixTenants(due);
        sixErrands(due);
        in(due);
        loves(due);
        once(due);
        reserved(due);
        alike(due);
        thirtyLines(due);
        fromThenOn(due);
        allStays(due);
        monthsAreTheMonths(due);
        due.end();
    }

    private static void anyNumber(Due due) {
        due.of("HOUSE: any number of room NAME stairs N noise N base N ;");
        PulseRent x = new PulseRent();
        due.is("none", Due.house(x, ""), 0);
        due.is("one", Due.house(x, "wish 1 ;"), 0);
        due.is("lines of all kinds, in another order", Due.house(x, "wish 1 ; due 1 ; every 1 ; coffee 1 lasts 1 ;"
                + " errand e opens 1 takes 1 adds 1 ; " + TENANT + "tenant u sick rest 40 calm 0 coins 0 ; loves u tt ;"
                + " room r stairs 1 noise 1 base 1 ; tenant v monk rest 40 calm 0 coins 0 in r ;"), 0);
        due.is("tenants", x.count(1), 3);
        StringBuilder many = new StringBuilder();
        for (char c = 'a'; c <= 'f'; c++) {
            many.append("tenant ").append(c).append(" monk rest 40calm 0coins 0;");
        }
        for (int pair = 0; pair < 36; pair++) {
            if (pair / 6 != pair % 6) {
                many.append("loves ").append((char) ('a' + pair / 6)).append(' ').append((char) ('a' + pair % 6)).append(';');
            }
        }
        due.is("36 lines", Due.house(x, many.toString()), 0);
        due.of("MONTHS: any number of climb NAME ;");
        due.is("none", Due.months(x, ""), 0);
        due.is("lines", x.count(9), 0);
        due.is("one", Due.months(x, "noon ;"), 0);
        due.is("lines", x.count(9), 1);
    }

    /** A NUMBER from least to most behind a text: the last that is allowed, and the first that is not. */
    private static void within(Due due, boolean months, String before, String behind, int least, int most) {
        int[] tried = {0, 1, least - 1, least, least + 1, (least + most) / 2, most - 1, most, most + 1, 9998, 9999};
        for (int n : tried) {
            if (n >= 0 && n <= 9999) {
                PulseRent x = Due.housed(TENANT);
                String text = before + n + behind;
                int fault = months ? Due.months(x, text) : Due.house(x, text);
                due.is(text, fault, n >= least && n <= most ? 0 : 4 + 16 * before.length());
            }
        }
        PulseRent x = Due.housed(TENANT);
        String[] none = {"10000", "-1", "- 1", "x", ";", "("};
        for (String n : none) {
            String text = before + n + behind;
            int fault = months ? Due.months(x, text) : Due.house(x, text);
            due.is(text, fault, 1 + 16 * before.length());
        }
    }

    private static void bounds(Due due) {
        due.of("stairs 0 to 60, noise 0 to 20, base 0 to 999");
        within(due, false, "room a stairs ", " noise 1 base 1 ;", 0, 60);
        within(due, false, "room a stairs 1 noise ", " base 1 ;", 0, 20);
        within(due, false, "room a stairs 1 noise 1 base ", " ;", 0, 999);
        due.of("rest 40 to 99, calm 0 to 40, coins 0 to 9999");
        within(due, false, "tenant a monk rest ", " calm 1 coins 1 ;", 40, 99);
        within(due, false, "tenant a monk rest 40 calm ", " coins 1 ;", 0, 40);
        within(due, false, "tenant a monk rest 40 calm 1 coins ", " ;", 0, 9999);
        due.of("opens 0 to 99, takes 1 to 20, adds 0 to 60");
        within(due, false, "errand a opens ", " takes 1 adds 1 ;", 0, 99);
        within(due, false, "errand a opens 1 takes ", " adds 1 ;", 1, 20);
        within(due, false, "errand a opens 1 takes 1 adds ", " ;", 0, 60);
        due.of("coffee: beats a minute 0 to 60 (20), lasts 1 to 120 minutes (30). every: 1 to 30 minutes (1)");
        within(due, false, "coffee ", " lasts 1 ;", 0, 60);
        within(due, false, "coffee 1 lasts ", " ;", 1, 120);
        within(due, false, "every ", " ;", 1, 30);
        due.of("(TENANTS, 1 to 99 beats; 1 to 120; a TENANT to a ROOM)");
        within(due, true, "fright tt ", " ;", 1, 99);
        within(due, true, "minutes ", " ;", 1, 120);
        due.of("4 a NUMBER that is not as told");
        PulseRent wrong = new PulseRent();
        due.faultyHouse(wrong, 4, "every ^0 ; every 1 ;");
        due.faultyHouse(wrong, 4, "every ^0031 ;");
        due.faultyHouse(wrong, 4, "coffee ^61lasts 1 ;");
        due.faultyHouse(wrong, 4, "coffee ^61");
        due.is("told with zeros ahead", Due.house(wrong, "every 0030 ; coffee 0060 lasts 0120 ;"), 0);
        due.of("PART: a NUMBER, a fact, not PART, ( E )");
        PulseRent x = new PulseRent();
        due.is("any NUMBER in an E", Due.house(x, "due 0 + 9999 + 0000 ; wish 9999 * 0 ;"), 0);
        due.faultyHouse(x, 1, "due 0 + ^10000 ;");
    }

    private static void untold(Due due) {
        due.of("coffee: beats a minute 0 to 60 (20), lasts 1 to 120 minutes (30). every: 1 to 30 minutes (1)");
        String in = "room r stairs 0 noise 0 base 0 ; tenant t plain rest 40 calm 0 coins 0 in r ; ";
        int[][] told = {{20, 30, 1}, {0, 1, 1}, {60, 120, 30}};
        String[] how = {"", "coffee 0 lasts 1 ; every 1 ;", "coffee 60 lasts 120 ; every 30 ;"};
        for (int i = 0; i < how.length; i++) {
            PulseRent x = Due.housed(in + how[i]);
            due.is("coffee, " + how[i], x.count(7), told[i][0]);
            due.is("every, " + how[i], x.count(8), told[i][2]);
            due.is("drink(0)", x.drink(0), true);
            due.is("lasts, " + how[i], x.tenant(0, 6), told[i][1]);
            due.is("pulse(0)", x.pulse(0), 40 + told[i][0]);
        }
    }

    private static void kinds(Due due) {
        due.of("KIND: plain, monk, runner, sick");
        PulseRent x = new PulseRent();
        for (int kind = 0; kind < KINDS.length; kind++) {
            due.is(KINDS[kind], Due.house(x, "tenant t " + KINDS[kind] + " rest 40 calm 0 coins 0 ;"), 0);
            due.is("its number", x.tenant(0, 0), kind);
        }
        String[] none = {"rest", "kind", "plains", "t", "7", ";", "in", "!"};
        for (String word : none) {
            due.faultyHouse(x, 1, "tenant t ^" + word + " rest 40 calm 0 coins 0 ;");
        }
        due.faultyHouse(x, 1, "tenant t plain ^monk rest 40 calm 0 coins 0 ;");
    }

    private static String rooms(int many) {
        StringBuilder text = new StringBuilder();
        for (int i = 0; i < many; i++) {
            text.append("room r").append((char) ('a' + i)).append(" stairs ").append(i).append(" noise ").append(10 + i)
                    .append(" base ").append(100 + i).append(" ; ");
        }
        return text.toString();
    }

    private static String tenants(int many) {
        StringBuilder text = new StringBuilder();
        for (int i = 0; i < many; i++) {
            text.append("tenant t").append((char) ('a' + i)).append(" ").append(KINDS[i % 4]).append(" rest ").append(40 + i)
                    .append(" calm ").append(10 + i).append(" coins ").append(1000 + i).append(" ; ");
        }
        return text.toString();
    }

    private static void sixRooms(Due due) {
        due.of("room: 6 at most, numbered as told");
        PulseRent x = Due.housed(rooms(6));
        due.is("6", x.count(0), 6);
        for (int i = 0; i < 6; i++) {
            due.is("stairs", x.room(i, 0), i);
            due.is("noise", x.room(i, 1), 10 + i);
            due.is("base", x.room(i, 2), 100 + i);
            due.is("who", x.room(i, 3), NONE);
        }
        due.is("room(6, 0)", x.room(6, 0), NONE);
        due.is("5", Due.housed(rooms(5)).room(5, 0), NONE);
        due.of("5 one too many: the words room, tenant, errand of a seventh");
        due.faultyHouse(x, 5, rooms(6) + "^room rg stairs 1 noise 1 base 1 ;");
        due.faultyHouse(x, 5, rooms(6) + "^room");
        due.faultyHouse(x, 5, rooms(6) + "^room ra !");
        due.is("tenants yet", Due.house(x, rooms(6) + tenants(1)), 0);
    }

    private static void sixTenants(Due due) {
        due.of("tenant: 6 at most, numbered as told");
        PulseRent x = Due.housed(tenants(6));
        due.is("6", x.count(1), 6);
        for (int i = 0; i < 6; i++) {
            due.is("KIND", x.tenant(i, 0), i % 4);
            due.is("rest", x.tenant(i, 1), 40 + i);
            due.is("calm", x.tenant(i, 2), 10 + i);
            due.is("coins", x.tenant(i, 3), 1000 + i);
        }
        due.is("tenant(6, 0)", x.tenant(6, 0), NONE);
        due.is("coins of all", x.count(4), 6015);
        due.of("5 one too many: the words room, tenant, errand of a seventh");
        due.faultyHouse(x, 5, tenants(6) + "^tenant tg plain rest 40 calm 0 coins 0 ;");
        due.faultyHouse(x, 5, tenants(6) + "^tenant");
        due.faultyHouse(x, 5, tenants(6) + "^tenant ta !");
    }

    private static void sixErrands(Due due) {
        due.of("errand: 6 at most, numbered as told");
        StringBuilder six = new StringBuilder();
        for (int i = 0; i < 6; i++) {
            // each opens when the one told behind it is done: any other order takes longer
            six.append("errand e").append((char) ('a' + i)).append(" opens ").append(10 - 2 * i).append(" takes 2 adds 0 ; ");
        }
        PulseRent x = Due.housed(TENANT + six);
        due.is("6", x.count(2), 6);
        for (int i = 0; i < 6; i++) {
            due.is("the " + i + ". of the order", x.errands(0, 1 + i), 5 - i);
        }
        due.of("5 one too many: the words room, tenant, errand of a seventh");
        due.faultyHouse(x, 5, six + "^errand eg opens 1 takes 1 adds 1 ;");
        due.faultyHouse(x, 5, six + "^errand");
        due.faultyHouse(x, 5, six + "^errand ea !");
    }

    private static void in(Due due) {
        due.of("IN is nothing or in NAME (a ROOM told in which nobody is)");
        String tenant = "tenant ta plain rest 40 calm 0 coins 0 ";
        String other = "tenant tb plain rest 40 calm 0 coins 0 ";
        PulseRent x = Due.housed(rooms(2) + tenant + "; " + other + "in rb ;");
        due.is("nothing: out", x.tenant(0, 4), NONE);
        due.is("in the second", x.tenant(1, 4), 1);
        due.is("who is in it", x.room(1, 3), 1);
        due.is("and in the other", x.room(0, 3), NONE);
        due.is("each in another", Due.house(x, rooms(2) + tenant + "in rb ; " + other + "in ra ;"), 0);
        due.is("ta", x.tenant(0, 4), 1);
        due.is("tb", x.tenant(1, 4), 0);
        due.of("2 a NAME of no ROOM (behind in, of move the second)");
        due.faultyHouse(x, 2, tenant + "in ^ra ; " + rooms(1));
        due.faultyHouse(x, 2, rooms(2) + tenant + "in ^rc ;");
        due.faultyHouse(x, 2, rooms(2) + tenant + "in ^ta ;");
        due.faultyHouse(x, 2, rooms(2) + tenant + "; " + other + "in ^ta ;");
        due.faultyHouse(x, 2, "errand ee opens 0 takes 1 adds 0 ; " + tenant + "in ^ee ;");
        due.faultyHouse(x, 2, rooms(2) + tenant + "in ^beats ;");
        due.of("a ROOM in which somebody is (behind in)");
        due.faultyHouse(x, 3, rooms(2) + tenant + "in rb ; " + other + "in ^rb ;");
        due.faultyHouse(x, 3, rooms(1) + tenant + "in ra ; " + other + "in ^ra !");
        due.faultyHouse(x, 1, rooms(1) + tenant + "in ra ^in ra ;");
        due.faultyHouse(x, 1, rooms(1) + tenant + "in ^room ;");
        due.faultyHouse(x, 1, rooms(1) + tenant + "^ra ;");
    }

    private static void loves(Due due) {
        due.of("loves: two TENANTS told, not the same, each so once of the other");
        String two = tenants(2);
        PulseRent x = new PulseRent();
        due.is("one way", Due.house(x, two + "loves ta tb ;"), 0);
        due.is("both ways", Due.house(x, two + "loves tb ta ; loves ta tb ;"), 0);
        due.is("two by one", Due.house(x, tenants(3) + "loves ta tb ; loves ta tc ; loves tb tc ;"), 0);
        due.of("of no TENANT (behind loves, climb, fright, drink, of move the first) told");
        due.faultyHouse(x, 2, "loves ^ta tb ; " + two);
        due.faultyHouse(x, 2, tenants(1) + "loves ta ^tb ; ");
        due.faultyHouse(x, 2, two + "loves ^tc ta ; ");
        due.faultyHouse(x, 2, rooms(1) + two + "loves ^ra ta ; ");
        due.faultyHouse(x, 2, rooms(1) + two + "loves ta ^ra ; ");
        due.faultyHouse(x, 2, "errand ee opens 0 takes 1 adds 0 ; " + two + "loves ta ^ee ; ");
        due.of("the second NAME of loves that is the first one, or if the first one loves it already");
        due.faultyHouse(x, 3, two + "loves ta ^ta ; ");
        due.faultyHouse(x, 3, two + "loves tb ^tb !");
        due.faultyHouse(x, 3, two + "loves ta tb ; loves tb ta ; loves ta ^tb ;");
        due.faultyHouse(x, 3, two + "loves ta tb ; loves tb ta ; loves tb ^ta ;");
        due.faultyHouse(x, 3, tenants(6) + "loves tf ta ; loves tf te ; loves tf ^ta ;");
        due.faultyHouse(x, 3, tenants(6) + "loves tf ta ; loves tf te ; loves tf ^tf ;");
        due.is("the last of six", Due.house(x, tenants(6) + "loves tf ta ; loves ta tf ; loves tf te ;"), 0);
        due.faultyHouse(x, 1, two + "loves ^loves ta ; ");
        due.faultyHouse(x, 1, two + "loves ta ^; ");
        due.faultyHouse(x, 1, two + "loves ta tb ^ta ; ");
    }

    private static void once(Due due) {
        due.of("coffee, every, due, wish: once each.");
        String[] lines = {"coffee 1 lasts 1 ;", "every 1 ;", "due 1 ;", "wish 1 ;"};
        PulseRent x = new PulseRent();
        for (String first : lines) {
            for (String second : lines) {
                int want = first.equals(second) ? 3 + 16 * first.length() : 0;
                due.is(first + second, Due.house(x, first + second), want);
            }
        }
        due.of("coffee, every, due, wish a second time");
        due.faultyHouse(x, 3, "coffee 0 lasts 1 ; ^coffee ;");
        due.faultyHouse(x, 3, "every 1 ; wish 1 ; ^every ;");
        due.faultyHouse(x, 3, "due 0 ; every 1 ; ^due !");
        due.faultyHouse(x, 3, "wish 0 ; due 1 ; ^wish");
        due.is("a HOUSE with a FAULT tells nothing", Due.house(x, "coffee 1 lasts 1 ; every 1 ; due 1 ; wish 1 ;"), 0);
        due.is("nor does the HOUSE ahead", Due.house(x, "coffee 1 lasts 1 ; every 1 ; due 1 ; wish 1 ;"), 0);
    }

    private static void reserved(Due due) {
        due.of("A NAME is another WORD than room, stairs, noise, base, tenant, rest, calm, coins, in, loves, errand, opens,"
                + " takes, adds, coffee, lasts, every, due, wish, climb, fright, drink, minutes, noon, move, the KINDS, not,"
                + " and, or");
        for (String word : RESERVED.split(" ")) {
            PulseRent x = Due.housed(rooms(1) + tenants(1));
            due.faultyMonths(x, 1, "climb ^" + word + " ;");
            due.faultyMonths(x, 1, "fright ^" + word + " 1 ;");
            due.faultyMonths(x, 1, "drink ^" + word + " ;");
            due.faultyMonths(x, 1, "move ^" + word + " ra ;");
            due.faultyMonths(x, 1, "move ta ^" + word + " ;");
            due.faultyHouse(x, 1, "room ^" + word + " stairs 0 noise 0 base 0 ;");
            due.faultyHouse(x, 1, "tenant ^" + word + " plain rest 40 calm 0 coins 0 ;");
            due.faultyHouse(x, 1, "tenant t plain rest 40 calm 0 coins 0 in ^" + word + " ;");
            due.faultyHouse(x, 1, "errand ^" + word + " opens 0 takes 1 adds 0 ;");
            due.faultyHouse(x, 1, tenants(1) + "loves ^" + word + " ta ;");
            due.faultyHouse(x, 1, tenants(1) + "loves ta ^" + word + " ;");
        }
        String[] free = {"beats", "floor", "kind", "steps", "loud", "rooms", "roo", "n", "o", "ann", "an", "nor", "house"};
        for (String word : free) {
            PulseRent x = new PulseRent();
            due.is("room " + word, Due.house(x, "room " + word + " stairs 0 noise 0 base 0 ;"), 0);
            due.is("tenant " + word, Due.house(x, "tenant " + word + " plain rest 40 calm 0 coins 0 ;"), 0);
            due.is("climb " + word, Due.months(x, "climb " + word + " ;"), 0);
        }
    }

    private static void alike(Due due) {
        due.of("no two (ROOMS, TENANTS, errands) are alike");
        due.of("3 a NAME told already");
        String[] before = {"room ", "tenant ", "errand "};
        String[] behind = {" stairs 0 noise 0 base 0 ; ", " plain rest 40 calm 0 coins 0 ; ", " opens 0 takes 1 adds 0 ; "};
        PulseRent x = new PulseRent();
        for (int first = 0; first < 3; first++) {
            for (int second = 0; second < 3; second++) {
                String other = before[2 - first] + "other" + behind[2 - first];
                String text = before[first] + "nn" + behind[first] + other + before[second];
                due.faultyHouse(x, 3, text + "^nn" + behind[second]);
                due.faultyHouse(x, 3, text + "^nn");
                due.is("another", Due.house(x, text + "nm" + behind[second]), 0);
            }
        }
        due.is("names of the HOUSE ahead are free", Due.house(x, "room nn stairs 0 noise 0 base 0 ;"), 0);
        due.faultyHouse(x, 1, "room no stairs 0 noise 0 base 0 ; ^!");
        due.is("names of a HOUSE with a FAULT, too", Due.house(x, "room no stairs 0 noise 0 base 0 ;"), 0);
    }

    private static void thirtyLines(Due due) {
        due.of("30 lines at most");
        PulseRent x = Due.housed(TENANT + rooms(1));
        due.is("29", Due.months(x, "noon;".repeat(29)), 0);
        due.is("count(9)", x.count(9), 29);
        due.is("30", Due.months(x, "noon;".repeat(29) + "minutes 120 ;"), 0);
        due.is("count(9)", x.count(9), 30);
        due.of("the first word of a 31st line of MONTHS");
        String[] lines = {"climb tt ;", "fright tt 1 ;", "drink tt ;", "minutes 1 ;", "noon ;", "move tt ra ;"};
        for (String line : lines) {
            due.is("a 30th", Due.months(x, "drink tt;".repeat(29) + line), 0);
            due.faultyMonths(x, 5, "noon;".repeat(30) + "^" + line);
            due.faultyMonths(x, 5, "noon;".repeat(30) + "^" + line.substring(0, line.indexOf(' ')));
            due.faultyMonths(x, 5, "noon;".repeat(30) + "^" + line.replace(";", "!"));
        }
        due.faultyMonths(x, 1, "noon;".repeat(30) + "^; ");
        due.faultyMonths(x, 1, "noon;".repeat(30) + "^tt ");
        due.faultyMonths(x, 1, "noon;".repeat(30) + "^every ");
        due.faultyMonths(x, 1, "noon;".repeat(30) + "^noonnoonn ");
        due.is("30 yet", x.count(9), 30);
        due.is("a HOUSE may have more", Due.house(x, tenants(6) + rooms(1)), 0);
    }

    private static PulseRent livedIn() {
        PulseRent x = Due.housed(rooms(3) + "tenant aa plain rest 50 calm 0 coins 9000 in rb ; "
                + "tenant bb sick rest 60 calm 0 coins 0 in ra ; tenant cc monk rest 70 calm 0 coins 70 ; ");
        Due.months(x, "climb aa ; noon ; noon ;");
        x.minutes(3);
        x.noon();
        x.climb(0);
        x.fright(0, 60);
        x.drink(0);
        x.move(2, 2);
        x.minutes(1);
        x.sample(0, 50);
        x.sample(5, 50);
        x.mark(0, false);
        x.mark(3, false);
        return x;
    }

    private static void fromThenOn(Due due) {
        due.of("Without a FAULT a HOUSE is the HOUSE from then on: minute 0, all where told (the others out), nothing counted,"
                + " nobody stirred, no coffee drunk, no habit, coins as told, nobody evicted, no MONTHS, no SAMPLE, nothing can"
                + " be undone, no MARK is there");
        PulseRent x = livedIn();
        due.is("somebody is evicted", x.count(6), 1);
        String next = "room ra stairs 9 noise 8 base 7 ; tenant aa plain rest 50 calm 0 coins 55 ; "
                + "tenant bb sick rest 60 calm 0 coins 66 in ra ; tenant cc monk rest 70 calm 0 coins 77 ; every 2 ; ";
        due.is("house()", Due.house(x, next), 0);
        due.same("as told", Due.look(x), "counts 1 3 0 0 198 1 0 20 2 0 0 0 0 room 9 8 7 1"
                + " tenant 0 50 0 55 -1 0 0 0 0 0 tenant 3 60 0 66 0 0 0 0 0 0 tenant 1 70 0 77 -1 0 0 0 0 0");
        due.is("undo()", x.undo(), false);
        for (int mark = 0; mark < 4; mark++) {
            due.is("mark(" + mark + ", true)", x.mark(mark, true), false);
        }
        due.is("no SAMPLE", x.days(0), 729);
        due.is("judged(0)", x.judged(0), NONE);
        due.is("minute 0 is counted", x.minutes(1) == 1 ? x.tenant(1, 8) : NONE, 2 * 88);
        PulseRent y = livedIn();
        due.is("nothing is a HOUSE, too", y.house(), 0);
        due.same("nothing", Due.look(y), "counts 0 0 0 0 0 0 0 20 1 0 0 0 0");
        due.is("mark(0, true)", y.mark(0, true), false);
    }

    private static void allStays(Due due) {
        due.of("The TAPE is read as a HOUSE: 0, or its FAULT (all stays then)");
        String[] wrong = {"!", "every 31 ;", "room ra stairs 0 noise 0 base 0 ; room ra", "every 2 ; due beats +", "climb aa ;"};
        for (String text : wrong) {
            PulseRent x = livedIn();
            String before = Due.look(x);
            due.is(text, Due.house(x, text) > 0, true);
            due.same("all stays behind " + text, Due.look(x), before);
            due.is("SAMPLES", x.days(0), livedIn().days(0));
            due.is("MONTHS", x.judged(1), livedIn().judged(1));
            due.is("undo()", x.undo(), true);
            due.is("a MARK", x.mark(3, true), true);
            due.is("owed(0)", x.owed(0), livedIn().owed(0));
        }
    }

    private static void monthsAreTheMonths(Due due) {
        due.of("The TAPE is read as MONTHS, likewise.");
        PulseRent x = livedIn();
        String before = Due.look(x);
        String[] wrong = {"!", "noon ; noon", "climb zz ;", "fright aa 100 ;", "noon;".repeat(31), "every 1 ;"};
        for (String text : wrong) {
            due.is(text, Due.months(x, text) > 0, true);
        }
        due.same("all stays", Due.look(x), before);
        due.is("the MONTHS too", x.judged(1), 1);
        due.of("MONTHS are the MONTHS. At first: nothing.");
        due.is("months()", Due.months(x, "noon ; noon ; noon ; climb cc ;"), 0);
        due.same("nothing else changes", Due.look(x).replace(" 4 2 7 0 room", " 3 2 7 0 room"), before);
        due.is("in place of the others", x.judged(0), 3);
        due.is("fewer", Due.months(x, "climb cc ;"), 0);
        due.is("count(9)", x.count(9), 1);
        due.is("judged(0)", x.judged(0), 0);
        PulseRent y = new PulseRent();
        due.is("at first", y.count(9), 0);
        due.is("at first", y.judged(2), 0);
    }
}
