/** The boundary cases of promises 5 to 14 and 16, of the PULSE and of a MINUTE, a sentence each. */
public final class HandEdgesTest {
    private static final int NONE = PulseRent.NONE;
    private static final int[] NOBODY = {-1, 4, 5, 6, 7, 31, 32, 33, Integer.MAX_VALUE, Integer.MIN_VALUE};
    private static final String[] KINDS = {"plain", "monk", "runner", "sick"};
    private static final String ROOMS = "room attic stairs 40 noise 2 base 10 ; room cellar stairs 0 noise 9 base 5 ; "
            + "room hall stairs 15 noise 0 base 30 ; ";
    /** ann is in, bob is out, cid is EVICTED by the first noon, dot is in. */
    private static final String HOUSE = ROOMS + "tenant ann plain rest 60 calm 10 coins 700 in attic ; "
            + "tenant bob monk rest 50 calm 30 coins 300 ; tenant cid runner rest 55 calm 0 coins 0 in hall ; "
            + "tenant dot sick rest 70 calm 5 coins 100 in cellar ; ";

    public static void main(String[] args) {
        Due due = new Due("HandEdgesTest");
        rooms(due);
        tenants(due);
        whoHasNoPulse(due);
        pulseAtMost(due);
        coffeeYet(due);
        lovesWhoIsIn(due);
        multipleOfEvery(due);
        halves(due);
        climbs(due);
        frights(due);
        frightBounds(due);
        drinks(due);
        minuteBounds(due);
        pays(due);
        credit(due);
        evictedForGood(due);
        countedOfAll(due);
        moves(due);
        sixteen(due);
        refused(due);
        owed(due);
        due.end();
    }

    private static PulseRent after() {
        PulseRent x = Due.housed(HOUSE);
        x.noon();
        return x;
    }

    private static PulseRent one(String kind, int stairs, int calm, int coins, String more) {
        return Due.housed("room r stairs " + stairs + " noise 0 base 0 ; tenant t " + kind + " rest 40 calm " + calm
                + " coins " + coins + " in r ; " + more);
    }

    private static void rooms(Due due) {
        due.of("Of a ROOM, what 0: stairs, 1: noise, 2: base, 3: who is in (NONE: nobody); NONE: others.");
        PulseRent x = Due.housed(HOUSE);
        int[][] want = {{40, 2, 10, 0}, {0, 9, 5, 3}, {15, 0, 30, 2}};
        for (int room = -2; room < 8; room++) {
            for (int what = -2; what < 7; what++) {
                boolean told = room >= 0 && room < 3 && what >= 0 && what < 4;
                due.is("room(" + room + ", " + what + ")", x.room(room, what), told ? want[room][what] : NONE);
            }
        }
        int[] far = {Integer.MIN_VALUE, Integer.MAX_VALUE, 1 << 16, 6};
        for (int n : far) {
            due.is("room(" + n + ", 0)", x.room(n, 0), NONE);
            due.is("room(0, " + n + ")", x.room(0, n), NONE);
        }
        x.noon();
        due.is("nobody", x.room(2, 3), NONE);
    }

    private static void tenants(Due due) {
        due.of("Of a TENANT, what 0: KIND, 1: rest as told, 2: calm, 3: coins, 4: his ROOM (NONE: out), 5: what STIRS him, 6:"
                + " minutes of COFFEE, 7: HABIT, 8: what was counted, 9: 1 EVICTED; NONE: others.");
        PulseRent x = Due.housed(HOUSE + "every 3 ; coffee 7 lasts 9 ; ");
        x.climb(0);
        x.fright(3, 25);
        x.drink(3);
        x.drink(2);
        x.minutes(1);
        int[][] want = {{0, 60, 10, 700, 0, 20, 0, 0, 306, 0}, {1, 50, 30, 300, NONE, 0, 0, 0, 0, 0},
            {2, 55, 0, 0, 2, 0, 8, 0, 186, 0}, {3, 70, 5, 100, 1, 10, 8, 1, 378, 0}};
        for (int tenant = -2; tenant < 8; tenant++) {
            for (int what = -2; what < 13; what++) {
                boolean told = tenant >= 0 && tenant < 4 && what >= 0 && what < 10;
                due.is("tenant(" + tenant + ", " + what + ")", x.tenant(tenant, what), told ? want[tenant][what] : NONE);
            }
        }
        x.noon();
        due.is("EVICTED: out", x.tenant(2, 4), NONE);
        due.is("EVICTED", x.tenant(2, 9), 1);
        due.is("out, not EVICTED", x.tenant(1, 9), 0);
        due.is("in", x.tenant(0, 9), 0);
        for (int n : NOBODY) {
            due.is("tenant(" + n + ", 0)", x.tenant(n, 0), NONE);
            due.is("tenant(" + n + ", 9)", x.tenant(n, 9), NONE);
        }
    }

    private static void whoHasNoPulse(Due due) {
        due.of("PULSE of the next minute; NONE: others, he is out.");
        PulseRent x = after();
        due.is("in", x.pulse(0), 62);
        due.is("sick", x.pulse(3), 99);
        due.is("out", x.pulse(1), NONE);
        due.is("EVICTED", x.pulse(2), NONE);
        for (int n : NOBODY) {
            due.is("pulse(" + n + ")", x.pulse(n), NONE);
        }
        x.move(1, 2);
        due.is("in now", x.pulse(1), 50);
    }

    private static void pulseAtMost(Due due) {
        due.of("his ROOM's noise; 240 at most");
        int[] more = {99, 100, 101, 102};
        for (int stirred : more) {
            // 119 of rest, 20 of noise: what STIRS may be 101
            PulseRent x = Due.housed("room r stairs 1 noise 20 base 0 ; tenant t sick rest 99 calm 0 coins 0 in r ; every 30 ;");
            x.fright(0, 99);
            for (int i = 99; i < stirred; i++) {
                x.climb(0);
            }
            int want = Math.min(240, 139 + stirred);
            due.is("pulse(0) stirred by " + stirred, x.pulse(0), want);
            due.is("will(0, 1)", x.will(0, 1), 30 * want);
            x.minutes(1);
            due.is("counted", x.tenant(0, 8), 30 * want);
            due.is("what STIRS is not cut", x.tenant(0, 5), stirred / 2);
        }
        due.of("the PULSE of a minute: his rest (a sick one's 20 more)");
        for (int kind = 0; kind < 4; kind++) {
            due.is(KINDS[kind], one(KINDS[kind], 0, 0, 0, "").pulse(0), kind == 3 ? 60 : 40);
        }
    }

    private static void coffeeYet(Due due) {
        due.of("the coffee's beats if he has COFFEE yet");
        PulseRent x = one("plain", 0, 0, 0, "coffee 60 lasts 2 ;");
        due.is("none drunk", x.pulse(0), 40);
        x.drink(0);
        due.is("2 minutes", x.pulse(0), 100);
        x.minutes(1);
        due.is("1 minute", x.pulse(0), 100);
        x.minutes(1);
        due.is("gone", x.pulse(0), 40);
        due.is("counted in two", x.tenant(0, 8), 200);
        x.minutes(1);
        due.is("no less than none", x.tenant(0, 6), 0);
        due.is("still none", x.pulse(0), 40);
        due.is("a coffee of 0", one("plain", 0, 0, 0, "coffee 0 lasts 120 ;").drink(0), true);
        PulseRent y = one("plain", 0, 0, 0, "coffee 0 lasts 120 ;");
        y.drink(0);
        due.is("pulse(0)", y.pulse(0), 40);
        y.minutes(119);
        due.is("the 120th", y.tenant(0, 6), 1);
        y.minutes(1);
        due.is("gone", y.tenant(0, 6), 0);
    }

    private static void lovesWhoIsIn(Due due) {
        due.of("8 if one he loves is in");
        PulseRent x = Due.housed(HOUSE + "loves ann bob ; loves ann cid ; loves bob ann ; loves dot bob ;");
        due.is("one of two is in", x.pulse(0), 62 + 8);
        due.is("who is loved has no more of it", x.pulse(2), 55);
        due.is("the loved one is out", x.pulse(3), 99);
        x.noon();
        due.is("none of two is in", x.pulse(0), 62);
        x.move(1, 2);
        due.is("he came", x.pulse(0), 62 + 8);
        due.is("to him, too", x.pulse(3), 99 + 8);
        due.is("bob's love is in", x.pulse(1), 50 + 8);
        PulseRent y = Due.housed(HOUSE + "loves ann cid ; loves ann dot ;");
        due.is("two are in, 8 once", y.pulse(0), 62 + 8);
    }

    private static void multipleOfEvery(Due due) {
        due.of("if the minutes that passed ahead of it are a multiple of every, of each who is in PULSE times every is counted");
        int[] often = {1, 2, 3, 7, 29, 30};
        for (int every : often) {
            PulseRent x = one("plain", 0, 0, 0, "every " + every + " ;");
            int want = 0;
            for (int minute = 0; minute < 62; minute++) {
                want += minute % every == 0 ? 40 * every : 0;
                x.minutes(1);
                due.is("every " + every + ", minute " + minute, x.tenant(0, 8), want);
            }
        }
        PulseRent out = Due.housed(HOUSE);
        out.minutes(1);
        due.is("out", out.tenant(1, 8), 0);
        due.is("in", out.tenant(0, 8), 62);
        due.of("then a minute more has passed");
        PulseRent x = one("plain", 0, 0, 0, "every 4 ;");
        due.is("minutes(1)", x.minutes(1), 1);
        due.is("minutes(3)", x.minutes(3), 4);
        due.is("minute 4 is not yet counted", x.tenant(0, 8), 160);
        due.is("minutes(1)", x.minutes(1), 5);
        due.is("now it is", x.tenant(0, 8), 320);
    }

    private static void halves(Due due) {
        due.of("then of each one, in or out, what STIRS him is half of it, cut (of a monk a quarter, cut), and of COFFEE a"
                + " minute is gone");
        for (int stirred = 0; stirred <= 9; stirred++) {
            for (String kind : KINDS) {
                PulseRent x = one(kind, 0, 0, 0, "");
                x.fright(0, Math.max(1, stirred));
                int felt = Math.max(1, stirred);
                due.is(kind + " stirred", x.tenant(0, 5), felt);
                x.minutes(1);
                due.is("counted ahead of that", x.tenant(0, 8), (kind.equals("sick") ? 60 : 40) + felt);
                due.is(kind + " a minute behind " + felt, x.tenant(0, 5), kind.equals("monk") ? felt / 4 : felt / 2);
            }
        }
        PulseRent evicted = Due.housed(HOUSE + "due 9999 ;");
        evicted.fright(0, 99);
        evicted.drink(0);
        evicted.noon();
        due.is("out", evicted.tenant(0, 4), NONE);
        due.is("a noon calms nobody", evicted.tenant(0, 5), 89);
        due.is("nor is COFFEE gone by it", evicted.tenant(0, 6), 30);
        evicted.minutes(1);
        due.is("half, out", evicted.tenant(0, 5), 44);
        due.is("a minute of COFFEE, out", evicted.tenant(0, 6), 29);
        due.is("nothing is counted, out", evicted.tenant(0, 8), 0);
    }

    private static void climbs(Due due) {
        due.of("CLIMB: of one who is in, his ROOM's stairs (a runner's half, cut) STIR him more");
        int[] stairs = {0, 1, 2, 3, 59, 60};
        for (int many : stairs) {
            for (String kind : KINDS) {
                PulseRent x = one(kind, many, 40, 0, "");
                int once = kind.equals("runner") ? many / 2 : many;
                due.is(kind + " climbs " + many, x.climb(0), once);
                due.is("more", x.climb(0), 2 * once);
                due.is("no HABIT of it", x.tenant(0, 7), 0);
            }
        }
        due.of("CLIMB: what STIRS him then; NONE: others, he is out.");
        PulseRent x = after();
        due.is("climb(0)", x.climb(0), 40);
        due.is("climb(0)", x.climb(0), 80);
        x.minutes(1);
        due.is("with what is left", x.climb(0), 80);
        due.is("no stairs", x.climb(3), 0);
        due.is("he can, so it can be undone", x.count(11), 6);
        due.is("out", x.climb(1), NONE);
        due.is("EVICTED", x.climb(2), NONE);
    }

    private static void frights(Due due) {
        due.of("FRIGHT: of one who is in, so much less his calm (0 at least), by 1 and his HABIT, cut, STIRS him more; his"
                + " HABIT is one more");
        int[] calms = {0, 1, 39, 40};
        int[] beats = {1, 2, 38, 39, 40, 41, 42, 99};
        for (int calm : calms) {
            for (int much : beats) {
                PulseRent x = one("plain", 0, calm, 0, "");
                int felt = Math.max(0, much - calm);
                due.is(much + " at calm " + calm, x.fright(0, much), felt);
                due.is("a second one", x.fright(0, much), felt + felt / 2);
                due.is("a third one", x.fright(0, much), felt + felt / 2 + felt / 3);
                due.is("HABIT", x.tenant(0, 7), 3);
            }
        }
        PulseRent x = one("plain", 0, 40, 0, "");
        for (int i = 0; i < 58; i++) {
            x.fright(0, 1);
        }
        due.is("59 of the 59th", x.fright(0, 99), 1);
        due.is("59 by 60, cut", x.fright(0, 99), 1);
        x.minutes(120);
        x.noon();
        due.is("HABIT stays", x.tenant(0, 7), 60);
    }

    private static void frightBounds(Due due) {
        due.of("FRIGHT (1 to 99): likewise.");
        int[] beats = {-1, 0, 1, 99, 100, 101, Integer.MIN_VALUE, Integer.MAX_VALUE};
        for (int much : beats) {
            PulseRent x = after();
            boolean can = much >= 1 && much <= 99;
            due.is("fright(0, " + much + ")", x.fright(0, much), can ? Math.max(0, much - 10) : NONE);
            due.is("HABIT", x.tenant(0, 7), can ? 1 : 0);
            due.is("undone can be", x.count(11), can ? 2 : 1);
            due.is("out", x.fright(1, much), NONE);
            due.is("EVICTED", x.fright(2, much), NONE);
            due.is("none such", x.fright(4, much), NONE);
        }
    }

    private static void drinks(Due due) {
        due.of("DRINK: he has COFFEE for as many minutes as it lasts");
        int[] lasts = {1, 2, 119, 120};
        for (int many : lasts) {
            PulseRent x = one("plain", 0, 0, 0, "coffee 9 lasts " + many + " ;");
            due.is("drink(0)", x.drink(0), true);
            due.is("COFFEE", x.tenant(0, 6), many);
            x.minutes(1);
            due.is("a minute less", x.tenant(0, 6), many - 1);
            due.is("drink(0)", x.drink(0), true);
            due.is("not more than it lasts", x.tenant(0, 6), many);
            due.is("drink(0)", x.drink(0), true);
            due.is("nor by two", x.tenant(0, 6), many);
        }
        due.of("DRINK: true; false: others, he is out.");
        PulseRent x = after();
        due.is("in", x.drink(3), true);
        due.is("out", x.drink(1), false);
        due.is("EVICTED", x.drink(2), false);
        due.is("nothing drunk", x.tenant(1, 6) + x.tenant(2, 6), 0);
    }

    private static void minuteBounds(Due due) {
        due.of("MINUTES (1 to 120): how many passed in all; NONE: others.");
        int[] many = {Integer.MIN_VALUE, -120, -1, 0, 1, 2, 119, 120, 121, 240, Integer.MAX_VALUE};
        for (int n : many) {
            PulseRent x = Due.housed(HOUSE);
            x.minutes(5);
            boolean can = n >= 1 && n <= 120;
            due.is("minutes(" + n + ")", x.minutes(n), can ? 5 + n : NONE);
            due.is("the minute", x.count(3), can ? 5 + n : 5);
            due.is("undone can be", x.count(11), can ? 2 : 1);
        }
        due.is("without a HOUSE", new PulseRent().minutes(120), 120);
    }

    private static void pays(Due due) {
        due.of("NOON: each who is in pays the E of due (0 to 9999), if he has it");
        int[] coins = {0, 1, 498, 499, 500, 501, 9999};
        for (int has : coins) {
            for (int kind = 0; kind < 3; kind++) {
                PulseRent x = one(KINDS[kind], 0, 0, has, "due 500 ;");
                boolean can = has >= 500;
                due.is(KINDS[kind] + " with " + has, x.noon(), can ? 500 : 0);
                due.is("coins", x.tenant(0, 3), can ? has - 500 : has);
                due.is("EVICTED", x.tenant(0, 9), can ? 0 : 1);
            }
        }
        due.is("below 0 is 0", one("plain", 0, 0, 0, "due 0 - 1 ;").noon(), 0);
        PulseRent none = one("plain", 0, 0, 0, "due 0 - 1 ;");
        none.noon();
        due.is("he has it", none.tenant(0, 9), 0);
        due.is("above 9999 is 9999", one("plain", 0, 0, 9999, "due 9999 + 1 ;").noon(), 9999);
        PulseRent x = one("plain", 0, 0, 9998, "due 9999 + 1 ;");
        due.is("one short of 9999", x.noon(), 0);
        due.is("EVICTED", x.tenant(0, 9), 1);
        due.of("NOON: what is paid together.");
        PulseRent all = Due.housed(HOUSE);
        due.is("ann 10, dot 5, cid none of 30", all.noon(), 15);
        due.is("nobody at all", new PulseRent().noon(), 0);
        due.is("who is out pays nothing", Due.housed("tenant t plain rest 40 calm 0 coins 90 ; due 9 ;").noon(), 0);
    }

    private static void credit(Due due) {
        due.of("else, if a sick one's coins are short of it by no more than 99, he pays all he has");
        int[] shorts = {1, 2, 98, 99, 100, 101, 200};
        for (int missing : shorts) {
            PulseRent x = one("sick", 0, 0, 300, "due 300 + " + missing + " ;");
            boolean can = missing <= 99;
            due.is("short by " + missing, x.noon(), can ? 300 : 0);
            due.is("coins", x.tenant(0, 3), can ? 0 : 300);
            due.is("EVICTED", x.tenant(0, 9), can ? 0 : 1);
            due.is("his ROOM", x.tenant(0, 4), can ? 0 : NONE);
            for (int kind = 0; kind < 3; kind++) {
                PulseRent y = one(KINDS[kind], 0, 0, 300, "due 300 + " + missing + " ;");
                due.is("others have no credit", y.noon(), 0);
                due.is("EVICTED", y.tenant(0, 9), 1);
            }
        }
        PulseRent enough = one("sick", 0, 0, 300, "due 300 ;");
        due.is("a sick one who has it", enough.noon(), 300);
        PulseRent more = one("sick", 0, 0, 301, "due 300 ;");
        due.is("and more", more.noon(), 300);
        due.is("keeps the rest", more.tenant(0, 3), 1);
        PulseRent poor = one("sick", 0, 0, 0, "due 99 ;");
        due.is("nothing at all, short by 99", poor.noon() + poor.noon() + poor.noon(), 0);
        due.is("he stays", poor.tenant(0, 4), 0);
    }

    private static void evictedForGood(Due due) {
        due.of("else he is EVICTED (out, for good; he pays nothing)");
        PulseRent x = Due.housed(HOUSE);
        x.noon();
        due.is("cid", x.tenant(2, 9), 1);
        due.is("out", x.tenant(2, 4), NONE);
        due.is("his ROOM is free", x.room(2, 3), NONE);
        due.is("for good", x.move(2, 2), false);
        x.noon();
        due.is("after another noon, too", x.move(2, 2), false);
        x.minutes(120);
        due.is("nothing is counted of him", x.tenant(2, 8), 0);
        due.is("EVICTED", x.count(6), 1);
        due.is("in", x.count(5), 2);
        due.is("another may have his ROOM", x.move(1, 2), true);
    }

    private static void countedOfAll(Due due) {
        due.of("what was counted of all is 0 then");
        PulseRent x = Due.housed(HOUSE + "due 100 * ( kind = 2 ) ;");
        x.minutes(4);
        due.is("counted", x.tenant(0, 8) + x.tenant(2, 8) + x.tenant(3, 8), 4 * (62 + 55 + 99));
        x.noon();
        for (int tenant = 0; tenant < 4; tenant++) {
            due.is("counted of " + tenant, x.tenant(tenant, 8), 0);
        }
        due.is("a noon is no minute", x.count(3), 4);
    }

    private static void moves(Due due) {
        due.of("MOVE: one who is not EVICTED to a ROOM in which nobody is");
        PulseRent x = after();
        due.is("where another is", x.move(0, 1), false);
        due.is("where he himself is", x.move(0, 0), false);
        due.is("EVICTED", x.move(2, 2), false);
        due.is("one who is in", x.move(0, 2), true);
        due.is("his old ROOM is free", x.move(1, 0), true);
        due.is("ann", x.tenant(0, 4), 2);
        due.is("bob", x.tenant(1, 4), 0);
        due.is("all are full", x.move(0, 0) || x.move(1, 1) || x.move(3, 2), false);
        due.of("MOVE: true; false: others, it can't be.");
        PulseRent y = after();
        for (int n : NOBODY) {
            due.is("move(" + n + ", 2)", y.move(n, 2), false);
        }
        int[] noRoom = {-1, 3, 4, 6, Integer.MAX_VALUE, Integer.MIN_VALUE};
        for (int n : noRoom) {
            due.is("move(0, " + n + ")", y.move(0, n), false);
        }
        due.is("nothing to undo but the noon", y.count(11), 1);
    }

    private static void sixteen(Due due) {
        due.of("UNDO: these, the last 16, one by one (MINUTES of one call as one)");
        for (int many = 14; many <= 18; many++) {
            PulseRent x = Due.housed(HOUSE);
            for (int i = 0; i < many; i++) {
                x.minutes(i + 1);
            }
            due.is("undone can be", x.count(11), Math.min(16, many));
            int left = many * (many + 1) / 2;
            for (int i = 0; i < Math.min(16, many); i++) {
                due.is("undo()", x.undo(), true);
                left -= many - i;
                due.is("minutes of one call as one", x.count(3), left);
            }
            due.is("no more", x.undo(), false);
            due.is("all stays then", x.count(3), left);
            due.is("undone can be", x.count(11), 0);
        }
        PulseRent each = Due.housed(HOUSE);
        String[] seen = new String[7];
        seen[0] = Due.look(each);
        each.climb(0);
        each.fright(0, 99);
        each.drink(0);
        each.minutes(7);
        each.noon();
        each.move(1, 2);
        for (int i = 0; i < 6; i++) {
            due.is("undo()", each.undo(), true);
        }
        due.same("as at first", Due.look(each), seen[0]);
        due.of("UNDO: true; false: nothing can be.");
        due.is("undo()", each.undo(), false);
        due.is("a new one", new PulseRent().undo(), false);
        each.climb(0);
        due.is("what comes then can be undone", each.undo(), true);
        due.is("once", each.undo(), false);
        due.same("as at first", Due.look(each), seen[0]);
    }

    private static void refused(Due due) {
        due.of("NONE: others, he is out.");
        PulseRent x = after();
        x.climb(0);
        x.drink(3);
        x.minutes(1);
        String before = Due.look(x);
        for (int n : NOBODY) {
            due.is("climb(" + n + ")", x.climb(n), NONE);
            due.is("fright(" + n + ", 50)", x.fright(n, 50), NONE);
            due.is("drink(" + n + ")", x.drink(n), false);
            due.is("owed(" + n + ")", x.owed(n), NONE);
        }
        for (int tenant = 1; tenant <= 2; tenant++) {
            due.is("climb", x.climb(tenant), NONE);
            due.is("fright", x.fright(tenant, 50), NONE);
            due.is("drink", x.drink(tenant), false);
        }
        due.is("fright(0, 0)", x.fright(0, 0), NONE);
        due.is("minutes(0)", x.minutes(0), NONE);
        due.is("move(0, 1)", x.move(0, 1), false);
        due.same("what is refused changes nothing", Due.look(x), before);
        due.is("the last that was not is undone", x.undo(), true);
        due.is("the minute", x.count(3), 0);
        due.is("COFFEE", x.tenant(3, 6), 30);
    }

    private static void owed(Due due) {
        due.of("What would be due of one now; NONE: others, he is out.");
        PulseRent x = after();
        due.is("ann", x.owed(0), 10);
        due.is("dot", x.owed(3), 5);
        due.is("out", x.owed(1), NONE);
        due.is("EVICTED", x.owed(2), NONE);
        x.minutes(2);
        due.is("ann", x.owed(0), 134);
        due.is("more than he has", x.owed(3), 203);
        due.is("at most", one("plain", 0, 0, 0, "due 9999 + 1 ;").owed(0), 9999);
        due.is("at least", one("plain", 0, 0, 0, "due 0 - 1 ;").owed(0), 0);
    }
}
