/** The boundary cases of promises 15 and 17 to 23 (judged, will, last, errands, match, spare, sampled, haunt), a sentence each. */
public final class AskEdgesTest {
    private static final int NONE = PulseRent.NONE;
    private static final int[] NOBODY = {-1, 4, 5, 6, 7, 31, 32, Integer.MAX_VALUE, Integer.MIN_VALUE};
    /** ann is in, bob is out, cid is EVICTED by the first noon, dot is in. */
    private static final String HOUSE = "room attic stairs 40 noise 2 base 10 ; room cellar stairs 0 noise 9 base 5 ; "
            + "room hall stairs 15 noise 0 base 30 ; tenant ann plain rest 60 calm 10 coins 700 in attic ; "
            + "tenant bob monk rest 50 calm 30 coins 300 ; tenant cid runner rest 55 calm 0 coins 0 in hall ; "
            + "tenant dot sick rest 70 calm 5 coins 100 in cellar ; errand shop opens 3 takes 2 adds 10 ; "
            + "errand post opens 0 takes 1 adds 30 ; ";

    public static void main(String[] args) {
        Due due = new Due("AskEdgesTest");
        judgedWhat(due);
        linesThatCannotBe(due);
        firstEvicted(due);
        fromTheBegin(due);
        will(due);
        last(due);
        lastPays(due);
        errandsWhat(due);
        errandsBegin(due);
        errandsStir(due);
        errandsAtRest(due);
        match(due);
        matchEquals(due);
        spare(due);
        sampledBounds(due);
        sampledOdds(due);
        hauntBounds(due);
        hauntMinutes(due);
        nothingChanges(due);
        due.end();
    }

    private static PulseRent after() {
        PulseRent x = Due.housed(HOUSE);
        x.noon();
        return x;
    }

    private static PulseRent judging(String months) {
        PulseRent x = Due.housed(HOUSE);
        if (Due.months(x, months) != 0) {
            throw new IllegalArgumentException(months);
        }
        return x;
    }

    private static void judgedWhat(Due due) {
        due.of("JUDGED, what 0: the first line that can't be, 1: the first with one EVICTED (NONE: none), 2: how many; -2: others.");
        PulseRent x = judging("climb ann ; climb bob ; noon ; climb cid ;");
        int[] want = {1, 2, 1};
        for (int what = -3; what < 6; what++) {
            due.is("judged(" + what + ")", x.judged(what), what >= 0 && what < 3 ? want[what] : -2);
        }
        due.is("judged of the greatest", x.judged(Integer.MAX_VALUE), -2);
        due.is("judged of the least", x.judged(Integer.MIN_VALUE), -2);
        PulseRent none = judging("");
        due.is("no MONTHS", none.judged(0), NONE);
        due.is("no MONTHS", none.judged(1), NONE);
        due.is("no MONTHS", none.judged(2), 0);
        PulseRent fine = judging("climb ann ; minutes 1 ; drink dot ;");
        due.is("all can be", fine.judged(0), NONE);
        due.is("nobody is EVICTED", fine.judged(1), NONE);
        due.is("nobody is EVICTED", fine.judged(2), 0);
    }

    private static void linesThatCannotBe(Due due) {
        due.of("the first line (from 0) that can't be (minutes, noon always can; lines that can't be are left out)");
        String[] can = {"climb ann", "fright ann 1", "fright dot 99", "drink dot", "minutes 1", "minutes 120", "noon",
            "drink ann ; drink ann", "noon ; move bob hall", "noon ; noon", "noon ; move ann hall ; move bob attic"};
        for (String lines : can) {
            due.is(lines, judging(lines + " ;").judged(0), NONE);
        }
        String[] cannot = {"climb bob", "fright bob 1", "drink bob", "move bob attic", "move ann attic", "move ann hall"};
        for (String line : cannot) {
            due.is(line, judging(line + " ;").judged(0), 0);
            due.is("the 30th", judging("minutes 1;".repeat(29) + line + " ;").judged(0), 29);
            due.is("the first of two", judging("drink ann ; " + line + " ; noon ; " + line + " ;").judged(0), 1);
        }
        String[] evicted = {"climb cid", "fright cid 1", "drink cid", "move cid hall"};
        for (String line : evicted) {
            due.is(line, judging("noon ; " + line + " ;").judged(0), 1);
        }
        // what can't be is left out: bob is out yet, his second line can't be either
        due.is("left out", judging("move bob hall ; climb bob ; noon ; move bob hall ; climb bob ;").judged(2), 1);
        due.is("noon can without anybody", new PulseRent().judged(0), NONE);
    }

    private static void firstEvicted(Due due) {
        due.of("the first one behind which somebody is EVICTED; how many are EVICTED at last");
        // cid owes 30 and has none at the first noon; dot and ann follow
        String months = "minutes 1 ; noon ; minutes 9 ; noon ; noon ;";
        PulseRent x = judging(months);
        due.is("behind line 1", x.judged(1), 1);
        due.is("cid, dot", x.judged(2), 2);
        due.is("the 30th line", judging("drink ann;".repeat(29) + "noon ;").judged(1), 29);
        due.is("line 0", judging("noon ;").judged(1), 0);
        due.is("one", judging("noon ;").judged(2), 1);
        due.is("a line that can't be, and no noon yet", judging("climb bob ; minutes 120 ;").judged(1), NONE);
        PulseRent all = judging("minutes 120 ; noon ;");
        due.is("three", all.judged(2), 3);
    }

    private static void fromTheBegin(Due due) {
        due.of("JUDGED: the MONTHS from the begin");
        PulseRent x = judging("climb cid ; climb bob ; minutes 1 ; climb ann ;");
        x.noon();
        x.move(1, 2);
        x.minutes(120);
        x.noon();
        due.is("all are EVICTED now", x.count(6), 4);
        due.is("cid is in at the begin", x.judged(0), 1);
        due.is("nobody is EVICTED", x.judged(1), NONE);
        due.is("nobody is EVICTED", x.judged(2), 0);
        // what is counted at the begin: minute 0, not 121
        PulseRent y = Due.housed("room r stairs 0 noise 0 base 0 ; tenant t plain rest 40 calm 0 coins 39 in r ; every 7 ; ");
        Due.months(y, "minutes 1 ; noon ;");
        y.minutes(1);
        due.is("minute 0 is counted", y.judged(1), 1);
    }

    private static void will(Due due) {
        due.of("WILL: what is counted of one, together with what was, behind so many minutes (0 to 240) from now, if nothing"
                + " else is done");
        int[] many = {Integer.MIN_VALUE, -1, 0, 1, 2, 239, 240, 241, 242, Integer.MAX_VALUE};
        for (int n : many) {
            PulseRent x = after();
            x.minutes(3);
            due.is("will(0, " + n + ")", x.will(0, n), n >= 0 && n <= 240 ? 62 * (3 + n) : NONE);
        }
        due.of("WILL; NONE: others, he is out.");
        PulseRent x = after();
        due.is("out", x.will(1, 5), NONE);
        due.is("EVICTED", x.will(2, 5), NONE);
        for (int n : NOBODY) {
            due.is("will(" + n + ", 5)", x.will(n, 5), NONE);
        }
        PulseRent every = Due.housed(HOUSE + "every 30 ; ");
        due.is("now", every.will(0, 0), 0);
        due.is("minute 0", every.will(0, 1), 30 * 62);
        due.is("till minute 29", every.will(0, 30), 30 * 62);
        due.is("minute 30", every.will(0, 31), 60 * 62);
        due.is("minute 210", every.will(0, 240), 240 * 62);
        every.minutes(1);
        due.is("what was", every.will(0, 0), 30 * 62);
    }

    private static PulseRent payer(String kind, int coins, String law) {
        return Due.housed("room r stairs 0 noise 0 base 0 ; tenant t " + kind + " rest 40 calm 0 coins " + coins
                + " in r ; due " + law + " ; ");
    }

    private static void last(Due due) {
        due.of("LAST: noons, each so many minutes (1 to 240) behind the one ahead, the first so many from now, if nothing else"
                + " is done, that one pays: 0 to 20");
        int[] many = {Integer.MIN_VALUE, -1, 0, 1, 2, 239, 240, 241, Integer.MAX_VALUE};
        for (int n : many) {
            PulseRent x = payer("plain", 30, "10");
            due.is("last(0, " + n + ")", x.last(0, n), n >= 1 && n <= 240 ? 3 : NONE);
        }
        for (int coins = 0; coins <= 22; coins++) {
            due.is("noons of 1 with " + coins, payer("plain", coins, "1").last(0, 1), Math.min(20, coins));
        }
        due.is("nothing is due", payer("plain", 0, "0").last(0, 240), 20);
        due.is("0 at most", payer("plain", 0, "0 - 5").last(0, 240), 20);
        for (int n = 1; n <= 240; n++) {
            due.is("last(0, " + n + ") of 40 a minute", payer("plain", 9600, "beats").last(0, n), Math.min(20, 9600 / (40 * n)));
        }
        due.of("LAST; NONE: others, he is out.");
        PulseRent x = after();
        due.is("out", x.last(1, 5), NONE);
        due.is("EVICTED", x.last(2, 5), NONE);
        for (int n : NOBODY) {
            due.is("last(" + n + ", 5)", x.last(n, 5), NONE);
        }
    }

    private static void lastPays(Due due) {
        due.of("the first so many from now");
        PulseRent x = payer("plain", 200, "beats");
        x.minutes(2);
        // 80 were counted: the first noon is dearer, 120, the next ones are 40
        due.is("what was counted is due by the first", x.last(0, 1), 3);
        x.drink(0);
        x.fright(0, 40);
        // 120 + 20 + 40 now, then 40 and 20 of the two that last
        due.is("what STIRS and COFFEE go on", x.last(0, 1), 1);
        PulseRent sick = payer("sick", 250, "100");
        due.is("100, 100, 50 of 100; then short by 100", sick.last(0, 1), 3);
        due.is("short by 99", payer("sick", 201, "100").last(0, 1), 3);
        due.is("short by 100", payer("sick", 200, "100").last(0, 1), 2);
        due.is("99 are never short by more", payer("sick", 0, "99").last(0, 1), 20);
    }

    private static void errandsWhat(Due due) {
        due.of("ERRANDS, what 0: beats, 1 + i: the i-th of the order; NONE: others.");
        PulseRent x = Due.housed(HOUSE);
        int[] want = {405, 1, 0};
        for (int what = -3; what < 9; what++) {
            due.is("errands(0, " + what + ")", x.errands(0, what), what >= 0 && what < 3 ? want[what] : NONE);
        }
        due.is("what: the greatest", x.errands(0, Integer.MAX_VALUE), NONE);
        due.is("what: the least", x.errands(0, Integer.MIN_VALUE), NONE);
        for (int n : NOBODY) {
            due.is("errands(" + n + ", 0)", x.errands(n, 0), NONE);
            due.is("errands(" + n + ", 1)", x.errands(n, 1), NONE);
        }
        PulseRent out = after();
        due.is("one who is out", out.errands(1, 0) > 0, true);
        due.is("one who is EVICTED", out.errands(2, 0) > 0, true);
        PulseRent none = Due.housed("tenant t plain rest 40 calm 0 coins 0 ;");
        due.is("no errands: no beats", none.errands(0, 0), 0);
        due.is("no order", none.errands(0, 1), NONE);
        StringBuilder six = new StringBuilder("tenant t plain rest 40 calm 0 coins 0 ; ");
        for (char c = 'a'; c <= 'f'; c++) {
            six.append("errand ").append(c).append(" opens 0 takes 20 adds 0 ; ");
        }
        PulseRent full = Due.housed(six.toString());
        due.is("6 errands", full.errands(0, 0), 120 * 40);
        due.of("the order by it (of equal ones the first)");
        for (int i = 0; i < 6; i++) {
            due.is("the " + i + ".", full.errands(0, 1 + i), i);
        }
        due.is("a seventh", full.errands(0, 7), NONE);
    }

    private static PulseRent walker(String kind, String errands) {
        return Due.housed("tenant t " + kind + " rest 40 calm 0 coins 0 ; " + errands);
    }

    private static void errandsBegin(Due due) {
        due.of("each begins when the one ahead is done, but not ahead of when it opens");
        due.is("opens 0 takes 1", walker("plain", "errand a opens 0 takes 1 adds 60 ;").errands(0, 0), 100);
        due.is("opens 1", walker("plain", "errand a opens 1 takes 1 adds 60 ;").errands(0, 0), 140);
        due.is("opens 99 takes 20", walker("plain", "errand a opens 99 takes 20 adds 60 ;").errands(0, 0), 99 * 40 + 2000);
        PulseRent late = walker("plain", "errand a opens 5 takes 1 adds 0 ; errand b opens 4 takes 1 adds 0 ;");
        due.is("b is done when a opens", late.errands(0, 0), 6 * 40);
        due.is("b first", late.errands(0, 1), 1);
        PulseRent wait = walker("plain", "errand a opens 5 takes 1 adds 0 ; errand b opens 3 takes 1 adds 0 ;");
        due.is("a minute is waited", wait.errands(0, 0), 6 * 40);
        PulseRent behind = walker("plain", "errand a opens 5 takes 1 adds 0 ; errand b opens 5 takes 3 adds 0 ;");
        due.is("one has opened already", behind.errands(0, 0), 9 * 40);
        due.is("of equal ones the first", behind.errands(0, 1), 0);
    }

    private static void errandsStir(Due due) {
        due.of("when an errand is done adds STIRS him on (in place of less that does); each minute behind its beats what STIRS"
                + " him is half of it, cut (of a monk a quarter)");
        String two = "errand a opens 0 takes 1 adds 21 ; errand b opens 3 takes 1 adds 0 ;";
        due.is("21, 10, 5 by halves", walker("plain", two).errands(0, 0), 61 + 61 + 50 + 45);
        due.is("21, 5, 1 by quarters", walker("monk", two).errands(0, 0), 61 + 61 + 45 + 41);
        due.is("runner", walker("runner", two).errands(0, 0), 61 + 61 + 50 + 45);
        due.is("sick", walker("sick", two).errands(0, 0), 61 + 61 + 50 + 45 + 80);
        // a, b, c in 22 minutes; of any other order a minute more is dearer than what it spares to one of 119.
        // 20 are left of 40 when b is done: b's adds STIR on if they are more
        int[] adds = {9, 19, 20, 21, 60};
        for (int b : adds) {
            PulseRent x = Due.housed("tenant t sick rest 99 calm 0 coins 0 ; errand a opens 0 takes 1 adds 40 ; errand b opens 1"
                    + " takes 1 adds " + b + " ; errand c opens 2 takes 20 adds 0 ;");
            int want = 22 * 119 + 40 + 40 + b;
            for (int stir = Math.max(20, b); stir > 0; stir /= 2) {
                want += stir;
            }
            due.is("in place of less: " + b, x.errands(0, 0), want);
            due.is("a", x.errands(0, 1), 0);
            due.is("b", x.errands(0, 2), 1);
            due.is("c", x.errands(0, 3), 2);
        }
        PulseRent most = walker("sick", "errand a opens 0 takes 20 adds 60 ; errand b opens 20 takes 20 adds 60 ;");
        due.is("stirred and adds", most.errands(0, 0), 40 * 60 + 40 * 60 + 60 + 30 + 15 + 7 + 3 + 1);
    }

    private static void errandsAtRest(Due due) {
        due.of("ERRANDS by one at rest (all else aside), from minute 0: an order of all of them");
        PulseRent x = Due.housed("room r stairs 60 noise 20 base 0 ; room s stairs 0 noise 0 base 0 ; tenant t plain rest 40 calm 0"
                + " coins 0 in r ; tenant u plain rest 40 calm 0 coins 0 in s ; loves t u ; errand a opens 9 takes 2 adds 5 ; every 30 ;");
        int want = 11 * 40 + 2 * 5;
        due.is("noise, love and every are aside", x.errands(0, 0), want);
        x.climb(0);
        x.fright(0, 99);
        x.drink(0);
        due.is("so is what STIRS, COFFEE and HABIT", x.errands(0, 0), want);
        x.minutes(7);
        due.is("from minute 0, not from now", x.errands(0, 0), want);
        due.of("in its minutes adds STIRS besides; beats are his rest (a sick one's 20 more), what STIRS him and adds, in each"
                + " minute till the last one is done");
        int[] takes = {1, 2, 19, 20};
        int[] adds = {0, 1, 59, 60};
        for (int many : takes) {
            for (int more : adds) {
                String errand = "errand a opens 3 takes " + many + " adds " + more + " ;";
                due.is("plain: " + errand, walker("plain", errand).errands(0, 0), 3 * 40 + many * (40 + more));
                due.is("sick: " + errand, walker("sick", errand).errands(0, 0), 3 * 60 + many * (60 + more));
            }
        }
    }

    private static void match(Due due) {
        due.of("MATCH: his ROOM (NONE: none, EVICTED); -2: others.");
        PulseRent x = after();
        due.is("dot", x.match(3), 1);
        due.is("ann", x.match(0), 2);
        due.is("bob, with cid gone", x.match(1), 0);
        due.is("EVICTED", x.match(2), NONE);
        for (int n : NOBODY) {
            due.is("match(" + n + ")", x.match(n), -2);
        }
        PulseRent early = Due.housed(HOUSE);
        due.is("none is left", early.match(1), NONE);
        due.is("nobody there", new PulseRent().match(0), -2);
        PulseRent noRooms = Due.housed("tenant t plain rest 40 calm 0 coins 0 ;");
        due.is("no ROOMS", noRooms.match(0), NONE);
        due.is("another", noRooms.match(1), -2);
        PulseRent fewTenants = Due.housed(HOUSE.substring(0, HOUSE.indexOf("tenant bob")));
        due.is("one who may have any", fewTenants.match(0), 1);
        due.is("where he is does not matter", fewTenants.tenant(0, 4), 0);
    }

    private static String three(int a, int b, int c) {
        return "room x stairs 0 noise 0 base 0 ; room y stairs 0 noise 0 base 1 ; tenant a plain rest " + a
                + " calm 0 coins 0 ; tenant b sick rest " + b + " calm 0 coins 0 ; tenant c monk rest " + c
                + " calm 0 coins 0 ; ";
    }

    private static void matchEquals(Due due) {
        due.of("TENANTS not EVICTED ask ROOMS in the order of their wish (E; of equal ones the first ROOM), a ROOM keeps who has"
                + " the most rest, as told, of those who ask (of equal ones the first), till nobody asks anew");
        int[][] rests = {{50, 50, 50}, {50, 50, 51}, {50, 51, 50}, {51, 50, 50}, {49, 50, 51}, {40, 99, 40}, {70, 51, 69}};
        int[][] want = {{0, 1, -1}, {1, -1, 0}, {1, 0, -1}, {0, 1, -1}, {-1, 1, 0}, {1, 0, -1}, {0, -1, 1}};
        for (int i = 0; i < rests.length; i++) {
            PulseRent x = Due.housed(three(rests[i][0], rests[i][1], rests[i][2]));
            PulseRent alike = Due.housed(three(rests[i][0], rests[i][1], rests[i][2]) + "wish 7 ;");
            PulseRent turned = Due.housed(three(rests[i][0], rests[i][1], rests[i][2]) + "wish floor ;");
            for (int tenant = 0; tenant < 3; tenant++) {
                int room = want[i][tenant];
                due.is("rests " + i + ", match(" + tenant + ")", x.match(tenant), room);
                due.is("of equal ones the first ROOM", alike.match(tenant), room);
                due.is("by the wish", turned.match(tenant), room == NONE ? NONE : 1 - room);
            }
        }
    }

    private static void spare(Due due) {
        due.of("SPARE: 1 or 0; NONE: others, the same, one has none.");
        PulseRent x = after();
        due.is("both have one", x.spare(0, 3), 0);
        due.is("both have one", x.spare(3, 1), 0);
        due.is("the same", x.spare(0, 0), NONE);
        due.is("EVICTED", x.spare(0, 2), NONE);
        due.is("EVICTED", x.spare(2, 0), NONE);
        PulseRent early = Due.housed(HOUSE);
        due.is("one has none", early.spare(0, 1), NONE);
        due.is("one has none", early.spare(1, 0), NONE);
        due.is("the same, who has none", early.spare(1, 1), NONE);
        for (int n : NOBODY) {
            due.is("spare(0, " + n + ")", x.spare(0, n), NONE);
            due.is("spare(" + n + ", 0)", x.spare(n, 0), NONE);
            due.is("spare(" + n + ", " + n + ")", x.spare(n, n), NONE);
        }
        due.of("whether two TENANTS so matched would both rather have each other's (by wish)");
        PulseRent y = Due.housed(three(60, 50, 40));
        due.is("one would, the other not", y.spare(0, 1), 0);
        due.is("one would, the other not", y.spare(1, 0), 0);
        PulseRent alike = Due.housed(three(60, 50, 40) + "wish 0 ;");
        due.is("neither would", alike.spare(0, 1), 0);
    }

    private static void sampledBounds(Due due) {
        due.of("SAMPLED: of so many minutes (1 to 30) so many (0 to these) are bad; so many (0 to these) are counted, each way"
                + " alike: the chance, in millionths, cut, that so many bad ones (0 to those counted) or more are counted");
        PulseRent x = new PulseRent();
        int[] minutes = {Integer.MIN_VALUE, -1, 0, 1, 2, 29, 30, 31, 32, Integer.MAX_VALUE};
        for (int n : minutes) {
            due.is("of " + n + " minutes", x.sampled(n, 0, 0, 0), n >= 1 && n <= 30 ? 1000000 : NONE);
        }
        int[] some = {Integer.MIN_VALUE, -1, 0, 1, 8, 9, 10, 11, 30, Integer.MAX_VALUE};
        for (int n : some) {
            boolean can = n >= 0 && n <= 9;
            due.is(n + " of 9 are bad", x.sampled(9, n, 9, 0), can ? 1000000 : NONE);
            due.is(n + " of 9 are bad, all of them counted", x.sampled(9, n, 9, 9), can ? n == 9 ? 1000000 : 0 : NONE);
            due.is(n + " of 9 are counted", x.sampled(9, 9, n, 0), can ? 1000000 : NONE);
            due.is(n + " or more of 9", x.sampled(9, 9, 9, n), can ? 1000000 : NONE);
        }
        due.of("SAMPLED; NONE: others.");
        due.is("times up to those counted", x.sampled(9, 9, 4, 4), 1000000);
        due.is("not beyond", x.sampled(9, 9, 4, 5), NONE);
        due.is("none counted", x.sampled(9, 9, 0, 0), 1000000);
        due.is("none counted, one seen", x.sampled(9, 9, 0, 1), NONE);
    }

    /** The same chance by going through every way of counting. */
    private static int slowly(int minutes, int bad, int counted, int times) {
        long ways = 0;
        long seen = 0;
        for (int bits = 0; bits < 1 << minutes; bits++) {
            if (Integer.bitCount(bits) == counted) {
                ways++;
                seen += Integer.bitCount(bits & (1 << bad) - 1) >= times ? 1 : 0;
            }
        }
        return (int) (seen * 1000000 / ways);
    }

    private static void sampledOdds(Due due) {
        due.of("the chance, in millionths, cut");
        PulseRent x = new PulseRent();
        int asked = 0;
        for (int minutes = 1; minutes <= 9; minutes++) {
            for (int bad = 0; bad <= minutes; bad++) {
                for (int counted = 0; counted <= minutes; counted++) {
                    for (int times = 0; times <= counted; times++) {
                        x = asked % 500 == 0 ? new PulseRent() : x;
                        asked++;
                        due.is("sampled(" + minutes + ", " + bad + ", " + counted + ", " + times + ")",
                                x.sampled(minutes, bad, counted, times), slowly(minutes, bad, counted, times));
                    }
                }
            }
        }
        PulseRent y = new PulseRent();
        due.is("1 of 3, cut", y.sampled(3, 1, 1, 1), 333333);
        due.is("2 of 3, cut", y.sampled(3, 2, 1, 1), 666666);
        due.is("1 of 155117520", y.sampled(30, 15, 15, 15), 0);
        due.is("226 of 155117520", y.sampled(30, 15, 15, 14), 1);
        due.is("all but one of them", y.sampled(30, 15, 15, 1), 999999);
    }

    private static void hauntBounds(Due due) {
        due.of("HAUNT: so many frights (1 to 3) of so much (1 to 99) for one who is in");
        PulseRent x = after();
        int[] many = {Integer.MIN_VALUE, -1, 0, 1, 2, 3, 4, 12, Integer.MAX_VALUE};
        for (int n : many) {
            boolean can = n >= 1 && n <= 3;
            due.is(n + " frights", x.haunt(0, n, 10, 0), can ? 12 * 62 : NONE);
            due.is(n + " frights", x.haunt(0, n, 10, 1), can ? (1 << n) - 1 : NONE);
        }
        int[] much = {Integer.MIN_VALUE, -1, 0, 1, 99, 100, Integer.MAX_VALUE};
        for (int n : much) {
            int more = n == 99 ? 89 + 44 + 22 + 11 + 5 + 2 + 1 : 0;
            due.is("a fright of " + n, x.haunt(0, 1, n, 0), n >= 1 && n <= 99 ? 12 * 62 + more : NONE);
        }
        due.of("HAUNT, what 0: the most, 1: minutes as bits; NONE: others, he is out.");
        due.is("what -1", x.haunt(0, 1, 10, -1), NONE);
        due.is("what 2", x.haunt(0, 1, 10, 2), NONE);
        due.is("out", x.haunt(1, 1, 10, 0), NONE);
        due.is("EVICTED", x.haunt(2, 1, 10, 0), NONE);
        for (int n : NOBODY) {
            due.is("haunt(" + n + ", 1, 10, 0)", x.haunt(n, 1, 10, 0), NONE);
        }
    }

    private static void hauntMinutes(Due due) {
        due.of("each ahead of one of the next 12 minutes, no two ahead of one: the most that is counted of him in these 12; the"
                + " minutes (0 to 11, as bits; of equal ones the least)");
        String one = "room r stairs 60 noise 0 base 0 ; tenant t plain rest 40 calm 0 coins 0 in r ; every 12 ; ";
        for (int passed = 0; passed < 12; passed++) {
            PulseRent x = Due.housed(one);
            if (passed > 0) {
                x.minutes(passed);
            }
            // the one counted minute of the next 12 comes when 12 have passed
            int counted = (12 - passed) % 12;
            due.is("behind " + passed, x.haunt(0, 1, 60, 1), 1 << counted);
            due.is("behind " + passed, x.haunt(0, 1, 60, 0), 12 * 100);
            if (counted > 0) {
                // 60 half gone and 30; a third one ahead of it would leave 15 + 15 + 20, so it comes behind, if it can
                due.is("2 behind " + passed, x.haunt(0, 2, 60, 1), 3 << counted - 1);
                due.is("2 behind " + passed, x.haunt(0, 2, 60, 0), 12 * 100);
                due.is("3 behind " + passed, x.haunt(0, 3, 60, 1), counted == 11 ? 7 << 9 : 7 << counted - 1);
                due.is("3 behind " + passed, x.haunt(0, 3, 60, 0), counted == 11 ? 12 * 90 : 12 * 100);
            }
        }
        PulseRent never = Due.housed(one.replace("every 12", "every 30"));
        never.minutes(1);
        due.is("none of the 12 is counted", never.haunt(0, 3, 99, 0), 0);
        due.is("the least", never.haunt(0, 3, 99, 1), 7);
        never.minutes(18);
        due.is("minute 30 is the 12th", never.haunt(0, 1, 99, 1), 1 << 11);
        due.is("its beats", never.haunt(0, 1, 99, 0), 30 * 139);
    }

    private static void nothingChanges(Due due) {
        due.of("if nothing else is done");
        PulseRent x = after();
        Due.months(x, "minutes 9 ; noon ; noon ;");
        x.climb(0);
        x.sample(1, 60);
        String before = Due.look(x);
        x.judged(0);
        x.judged(2);
        x.will(0, 240);
        x.last(0, 240);
        x.errands(0, 0);
        x.match(0);
        x.spare(0, 3);
        x.sampled(30, 5, 5, 5);
        x.haunt(0, 3, 99, 1);
        due.same("what is asked changes nothing", Due.look(x), before);
        due.is("undo()", x.undo(), true);
        due.is("what STIRS", x.tenant(0, 5), 0);
    }
}
