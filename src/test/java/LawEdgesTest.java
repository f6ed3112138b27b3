import java.util.NoSuchElementException;

/** The boundary cases of promises 24 to 26 and 31 to 33 (lease, share, law, years, mark, count), a sentence each. */
public final class LawEdgesTest {
    private static final int NONE = PulseRent.NONE;
    private static final int[] NOBODY = {-1, 4, 5, 6, 7, 31, 32, Integer.MAX_VALUE, Integer.MIN_VALUE};
    /** ann is in, bob is out, cid is EVICTED by the first noon, dot is in. */
    private static final String HOUSE = "room attic stairs 40 noise 2 base 10 ; room cellar stairs 0 noise 9 base 5 ; "
            + "room hall stairs 15 noise 0 base 30 ; tenant ann plain rest 60 calm 10 coins 700 in attic ; "
            + "tenant bob monk rest 50 calm 30 coins 300 ; tenant cid runner rest 55 calm 0 coins 0 in hall ; "
            + "tenant dot sick rest 70 calm 5 coins 100 in cellar ; ";

    public static void main(String[] args) {
        Due due = new Due("LawEdgesTest");
        whoCanLease(due);
        together(due);
        halfCut(due);
        lawBounds(due);
        lawEvicts(due);
        lawInPlace(due);
        yearsBounds(due);
        yearsDraws(due);
        yearsDeeds(due);
        yearsFromNow(due);
        yearsPaid(due);
        whichMarks(due);
        markHolds(due);
        noUndoBehindMarks(due);
        counts(due);
        due.end();
    }

    private static PulseRent after() {
        PulseRent x = Due.housed(HOUSE);
        x.noon();
        return x;
    }

    /** How many of lease and share throw what the document names. */
    private static int thrown(PulseRent x, int tenant, int other) {
        int many = 0;
        try {
            x.lease(tenant, other);
        } catch (NoSuchElementException e) {
            many++;
        }
        try {
            x.share(tenant, other);
        } catch (NoSuchElementException e) {
            many++;
        }
        return many;
    }

    private static void whoCanLease(Due due) {
        due.of("LEASE: what is saved. NoSuchElementException: others, the same, one is out.");
        PulseRent x = after();
        String before = Due.look(x);
        for (int first = -1; first < 8; first++) {
            for (int second = -1; second < 8; second++) {
                boolean can = first != second && (first == 0 || first == 3) && (second == 0 || second == 3);
                due.is(first + " with " + second, thrown(x, first, second), can ? 0 : 2);
            }
        }
        for (int n : NOBODY) {
            due.is("0 with " + n, thrown(x, 0, n), 2);
            due.is(n + " with 0", thrown(x, n, 0), 2);
            due.is(n + " with " + n, thrown(x, n, n), 2);
        }
        due.same("nothing changes", Due.look(x), before);
        due.is("no HOUSE", thrown(new PulseRent(), 0, 1), 2);
    }

    private static PulseRent two(int first, int second, String law) {
        return Due.housed("room x stairs 0 noise 0 base " + first + " ; room y stairs 0 noise 0 base " + second
                + " ; tenant s monk rest 40 calm 0 coins 0 in x ; tenant t runner rest 50 calm 0 coins 0 in y ; due " + law + " ; ");
    }

    private static void together(Due due) {
        due.of("LEASE: two who are in pay together the E of due of the beats of both, the lesser base and the first one's kind (0"
                + " to 9999): what they save");
        due.is("the lesser base is the first one's", two(3, 7, "floor").lease(0, 1), 3 + 7 - 3);
        due.is("the lesser base is the other's", two(7, 3, "floor").lease(0, 1), 7 + 3 - 3);
        due.is("alike", two(7, 7, "floor").lease(0, 1), 7);
        due.is("the first one's kind, 1", two(0, 0, "kind * 10").lease(0, 1), 10 + 20 - 10);
        due.is("the first one's kind, 2", two(0, 0, "kind * 10").lease(1, 0), 10 + 20 - 20);
        PulseRent beats = two(0, 0, "beats");
        due.is("nothing is counted", beats.lease(0, 1), 0);
        beats.minutes(2);
        due.is("nothing is saved", beats.lease(0, 1), 0);
        PulseRent both = two(0, 0, "( beats = 180 ) * 7 + ( beats = 80 ) * 100 + ( beats = 100 ) * 1000");
        both.minutes(2);
        due.is("the beats of both", both.lease(0, 1), 1100 - 7);
        due.is("0 at least", two(1, 9, "floor - 5").lease(0, 1), 0 + 4 - 0);
        due.is("each alone 0 at least, too", two(1, 2, "floor - 5").lease(0, 1), 0);
        due.is("9999 at most", two(1, 2, "9999 * 9999").lease(0, 1), 9999);
        PulseRent dear = two(0, 0, "beats * 70");
        dear.minutes(2);
        due.is("9999 at most together: a gain by it", dear.lease(0, 1), 80 * 70 + 100 * 70 - 9999);
        PulseRent loss = two(0, 0, "( beats = 180 ) * 9999 * 2");
        loss.minutes(2);
        due.is("a loss", loss.lease(0, 1), -9999);
    }

    private static void halfCut(Due due) {
        due.of("SHARE: of the first one: his own due less half of what is saved, cut");
        int[] bases = {0, 1, 2, 3, 4, 5};
        for (int base : bases) {
            // both owe their base, together the lesser: the greater one is saved
            PulseRent x = two(base, 5, "floor");
            due.is("saved", x.lease(0, 1), 5);
            due.is("the first one's", x.share(0, 1), base - 2);
            due.is("the other's", x.share(1, 0), 5 - 2);
        }
        for (int saved = 0; saved <= 5; saved++) {
            due.is("half of " + saved, two(saved, saved, "floor").share(0, 1), saved - saved / 2);
        }
        for (int lost = 1; lost <= 4; lost++) {
            PulseRent x = two(0, 0, "( beats = 90 ) * " + lost);
            x.minutes(1);
            due.is("lost", x.lease(0, 1), -lost);
            due.is("half of a loss", x.share(0, 1), lost / 2);
        }
        due.of("SHARE of the first one. NoSuchElementException: likewise.");
        due.is("the same", thrown(two(0, 0, "1"), 1, 1), 2);
    }

    private static void lawBounds(Due due) {
        due.of("LAW: with so much coffee (0 to 60 beats) in place of the told one: who is EVICTED by a noon so many minutes (1 to"
                + " 240) from now, if each who is in drinks now");
        PulseRent x = Due.housed(HOUSE);
        int[] coffee = {Integer.MIN_VALUE, -1, 0, 1, 59, 60, 61, Integer.MAX_VALUE};
        for (int n : coffee) {
            due.is("law(" + n + ", 1)", x.law(n, 1), n >= 0 && n <= 60 ? 4 : NONE);
        }
        int[] minutes = {Integer.MIN_VALUE, -1, 0, 1, 2, 239, 240, 241, Integer.MAX_VALUE};
        for (int n : minutes) {
            due.is("law(0, " + n + ")", x.law(0, n), n < 1 || n > 240 ? NONE : n == 1 ? 4 : n == 2 ? 12 : 13);
        }
        due.is("nobody there", new PulseRent().law(60, 240), 0);
        PulseRent none = Due.housed("room r stairs 0 noise 0 base 0 ; tenant t plain rest 40 calm 0 coins 0 in r ; due 0 ;");
        due.is("nobody is EVICTED", none.law(60, 240), 0);
    }

    private static PulseRent six() {
        StringBuilder text = new StringBuilder();
        for (int i = 0; i < 6; i++) {
            char c = (char) ('a' + i);
            text.append("room r").append(c).append(" stairs 0 noise 0 base 0 ; tenant t").append(c)
                    .append(" plain rest 40 calm 0 coins ").append(40 + 4 * i).append(" in r").append(c).append(" ; ");
        }
        return Due.housed(text.toString());
    }

    private static void lawEvicts(Due due) {
        due.of("LAW: who is EVICTED by it, as bits; NONE: others.");
        // 40 and the coffee's beats are due: who has 4 more each time
        PulseRent x = six();
        for (int coffee = 0; coffee <= 60; coffee++) {
            int want = 0;
            for (int i = 0; i < 6; i++) {
                want |= 4 * i < coffee ? 1 << i : 0;
            }
            due.is("law(" + coffee + ", 1)", x.law(coffee, 1), want);
        }
        due.is("all", x.law(60, 1), 63);
        due.is("none", x.law(0, 1), 0);
        due.is("nobody is EVICTED now", x.count(6), 0);
        due.is("nobody has drunk", x.tenant(0, 6), 0);
        due.is("nothing to undo", x.count(11), 0);
        PulseRent gone = after();
        due.is("who is EVICTED already is not by it", gone.law(0, 1), 0);
        due.is("nor who is out", gone.law(60, 240), 9);
    }

    private static void lawInPlace(Due due) {
        due.of("with so much coffee (0 to 60 beats) in place of the told one");
        String one = "room r stairs 0 noise 0 base 0 ; tenant t plain rest 40 calm 0 coins %d in r ; coffee 50 lasts %d ; ";
        // of 5 minutes as many as it lasts have the other coffee's beats
        for (int lasts = 1; lasts <= 6; lasts++) {
            int owes = 200 + 7 * Math.min(5, lasts);
            due.is("lasts " + lasts, Due.housed(String.format(one, owes, lasts)).law(7, 5), 0);
            due.is("lasts " + lasts + ", one short", Due.housed(String.format(one, owes - 1, lasts)).law(7, 5), 1);
        }
        PulseRent drunk = Due.housed(String.format(one, 90 + 5 * 47, 5));
        drunk.drink(0);
        drunk.minutes(1);
        due.is("what was counted is as told, a drink now lasts anew", drunk.law(7, 5), 0);
        PulseRent poorer = Due.housed(String.format(one, 90 + 5 * 47 - 1, 5));
        poorer.drink(0);
        poorer.minutes(1);
        due.is("one short", poorer.law(7, 5), 1);
        due.is("the told one stays", poorer.pulse(0), 90);
    }

    private static void yearsBounds(Due due) {
        due.of("YEARS by a SEED (0 to 9999), what 0: paid, 1: in, 2: beats; NONE: others.");
        PulseRent x = Due.housed(HOUSE);
        int[] seeds = {Integer.MIN_VALUE, -1, 0, 1, 9998, 9999, 10000, Integer.MAX_VALUE};
        for (int n : seeds) {
            for (int what = 0; what < 3; what++) {
                due.is("years(" + n + ", 1, " + what + ")", x.years(n, 1, what) == NONE, n < 0 || n > 9999);
            }
        }
        for (int what = -2; what < 6; what++) {
            due.is("years(1, 1, " + what + ")", x.years(1, 1, what) == NONE, what < 0 || what > 2);
        }
        due.of("YEARS by a SEED of so many noons (1 to 30)");
        int[] noons = {Integer.MIN_VALUE, -1, 0, 1, 2, 29, 30, 31, Integer.MAX_VALUE};
        for (int n : noons) {
            due.is("years(1, " + n + ", 0)", x.years(1, n, 0) == NONE, n < 1 || n > 30);
        }
        PulseRent one = Due.housed("room r stairs 0 noise 0 base 0 ; tenant t plain rest 40 calm 40 coins 9999 in r ; coffee 0"
                + " lasts 1 ; due 7 ; ");
        for (int n = 1; n <= 30; n++) {
            due.is("paid in " + n, one.years(5, n, 0), 7 * n);
            due.is("beats in " + n, one.years(5, n, 2), 400 * n);
            due.is("in behind " + n, one.years(5, n, 1), 1);
        }
        PulseRent nobody = new PulseRent();
        for (int what = 0; what < 3; what++) {
            due.is("nobody", nobody.years(9999, 30, what), 0);
        }
    }

    private static void yearsDraws(Due due) {
        due.of("A DRAW below m: g becomes (g * 1103515245 + 12345) modulo 2147483648 (g is the SEED at first); it is g / 65536,"
                + " cut, modulo m");
        // of one noon: nothing 400, a climb of 60 stairs 116, a fright of 30 56, COFFEE of 2 beats in 10 minutes 20 more
        PulseRent x = null;
        int[] seen = new int[4];
        for (int seed = 0; seed < 10000; seed += seed < 200 ? 1 : 97) {
            x = seed % 100 == 0 || x == null || seed > 200 ? Due.housed("room r stairs 60 noise 0 base 0 ;"
                    + " tenant t plain rest 40 calm 0 coins 9999 in r ; coffee 2 lasts 10 ;") : x;
            long g = (seed * 1103515245L + 12345L) % 2147483648L;
            int draw = (int) (g / 65536 % 6);
            int[] more = {60 + 30 + 15 + 7 + 3 + 1, 30 + 15 + 7 + 3 + 1, 20};
            due.is("years(" + seed + ", 1, 2), draw " + draw, x.years(seed, 1, 2), 400 + (draw < 3 ? more[draw] : 0));
            seen[Math.min(3, draw)]++;
        }
        for (int draw = 0; draw < 4; draw++) {
            due.is("draw " + draw + " came " + seen[draw] + " times", seen[draw] > 20, true);
        }
    }

    private static void yearsDeeds(Due due) {
        due.of("each time for each TENANT who is in, by numbers, a DRAW below 6: 0 CLIMB, 1 a FRIGHT of 30, 2 DRINK, else nothing;"
                + " then 10 MINUTES, then NOON");
        String told = HOUSE.replace("coins 0 ", "coins 900 ") + "coffee 9 lasts 12 ; ";
        for (int seed = 0; seed < 300; seed++) {
            PulseRent x = Due.housed(told);
            PulseRent y = Due.housed(told);
            long g = seed;
            int paid = 0;
            for (int noon = 0; noon < 3; noon++) {
                for (int tenant = 0; tenant < 4; tenant++) {
                    // who is out, bob at first, has no DRAW
                    if (y.tenant(tenant, 4) != NONE) {
                        g = (g * 1103515245L + 12345L) % 2147483648L;
                        int draw = (int) (g / 65536L % 6L);
                        boolean done = draw == 0 ? y.climb(tenant) >= 0 : draw == 1 ? y.fright(tenant, 30) >= 0
                                : draw != 2 || y.drink(tenant);
                        due.is("done", done, true);
                    }
                }
                y.minutes(10);
                paid += y.noon();
            }
            due.is("years(" + seed + ", 3, 0)", x.years(seed, 3, 0), paid);
            due.is("years(" + seed + ", 3, 1)", x.years(seed, 3, 1), y.count(5));
        }
    }

    private static void yearsFromNow(Due due) {
        due.of("from now on (all is as ahead then)");
        PulseRent x = Due.housed(HOUSE + "every 7 ; ");
        x.climb(0);
        x.drink(3);
        x.fright(3, 50);
        x.minutes(5);
        x.sample(2, 2);
        x.mark(1, false);
        String before = Due.look(x);
        for (int what = 0; what < 3; what++) {
            x.years(4321, 30, what);
        }
        due.same("all is as ahead", Due.look(x), before);
        due.is("undo()", x.undo(), true);
        due.is("the minute", x.count(3), 0);
        // 5 minutes ahead of it: of the next 10 only minute 7 and 14 are counted, of the first ones 0 and 7
        PulseRent late = Due.housed("room r stairs 0 noise 0 base 0 ; tenant t plain rest 40 calm 40 coins 9999 in r ;"
                + " coffee 0 lasts 1 ; every 7 ; ");
        due.is("minutes 0 and 7", late.years(3, 1, 2), 2 * 280);
        late.minutes(1);
        due.is("minute 7", late.years(3, 1, 2), 280);
        due.is("paid, with what was counted", late.years(3, 1, 0), 2 * 280);
    }

    private static void yearsPaid(Due due) {
        due.of("what is paid by these, in all; how many are in at last; beats that were counted");
        // who has 1000 pays 400 twice, then is out: nothing is counted of him in the third
        PulseRent x = Due.housed("room r stairs 0 noise 0 base 0 ; tenant t plain rest 40 calm 40 coins 1000 in r ;"
                + " coffee 0 lasts 1 ; ");
        int[][] want = {{400, 1, 400}, {800, 1, 800}, {800, 0, 1200}, {800, 0, 1200}, {800, 0, 1200}};
        for (int noons = 1; noons <= 5; noons++) {
            for (int what = 0; what < 3; what++) {
                due.is("years(7, " + noons + ", " + what + ")", x.years(7, noons, what), want[noons - 1][what]);
            }
        }
        PulseRent out = Due.housed("tenant t plain rest 40 calm 40 coins 1000 ; ");
        due.is("who is out does nothing", out.years(7, 30, 2), 0);
        due.is("who is out is not in", out.years(7, 30, 1), 0);
    }

    private static void whichMarks(Due due) {
        due.of("A MARK is laid (back: gone back to): true; false: none such, nothing is on it (back).");
        int[] marks = {Integer.MIN_VALUE, -1, 0, 1, 2, 3, 4, 5, 31, 32, 33, Integer.MAX_VALUE};
        for (int n : marks) {
            boolean can = n >= 0 && n <= 3;
            PulseRent x = after();
            String before = Due.look(x);
            due.is("mark(" + n + ", true) of none", x.mark(n, true), false);
            due.same("all stays", Due.look(x), before);
            due.is("mark(" + n + ", false)", x.mark(n, false), can);
            due.same("laying one changes nothing", Due.look(x), before);
            due.is("mark(" + n + ", true)", x.mark(n, true), can);
            due.is("twice", x.mark(n, true), can);
            for (int other = 0; other < 4; other++) {
                due.is("only that one is there: " + other, x.mark(other, true), other == n);
            }
        }
        due.of("MARKS 0 to 3 hold the minute");
        PulseRent x = Due.housed(HOUSE);
        for (int mark = 0; mark < 4; mark++) {
            x.minutes(1 + mark);
            x.mark(mark, false);
        }
        int[] minute = {1, 3, 6, 10};
        for (int i = 0; i < 8; i++) {
            int mark = i * 3 % 4;
            due.is("mark(" + mark + ", true)", x.mark(mark, true), true);
            due.is("the minute", x.count(3), minute[mark]);
            x.minutes(100);
        }
        x.mark(2, false);
        due.is("laid anew", x.mark(2, true), true);
        due.is("the minute", x.count(3), 103);
    }

    private static void markHolds(Due due) {
        due.of("MARKS 0 to 3 hold the minute, who is where, counts, what STIRS, COFFEE, HABITS, coins, SAMPLES");
        PulseRent x = Due.housed(HOUSE);
        x.fright(0, 50);
        x.climb(2);
        x.drink(3);
        x.minutes(1);
        x.sample(0, 60);
        String at = Due.look(x).replaceFirst(" \\d+ 0 room", " 0 0 room");
        x.mark(3, false);
        x.noon();
        x.move(1, 2);
        x.fright(1, 99);
        x.drink(1);
        x.minutes(120);
        x.noon();
        x.sample(1, 61);
        x.sample(2, 62);
        due.is("mark(3, true)", x.mark(3, true), true);
        due.same("as it was, but nothing can be undone", Due.look(x), at);
        due.is("the one SAMPLE", x.days(0), 243);
        due.is("cid can do again what he could", x.climb(2) > 0, true);
        Due.months(x, "noon ; noon ;");
        due.is("MONTHS are not on it", x.mark(3, true) ? x.count(9) : NONE, 2);
        Due.feed(x, "every");
        due.is("nor the TAPE", x.mark(3, true) ? x.count(12) : NONE, 5);
        PulseRent empty = Due.housed(HOUSE);
        empty.mark(0, false);
        for (int i = 0; i < 6; i++) {
            empty.sample(i, 70);
        }
        due.is("6 there are", empty.sample(0, 70), false);
        empty.mark(1, false);
        empty.mark(0, true);
        due.is("no SAMPLE", empty.count(10), 0);
        empty.mark(1, true);
        due.is("6 SAMPLES", empty.count(10), 6);
        due.is("6 there are", empty.sample(0, 70), false);
    }

    private static void noUndoBehindMarks(Due due) {
        due.of("(nothing can be undone when one is gone back to)");
        PulseRent x = Due.housed(HOUSE);
        for (int i = 0; i < 20; i++) {
            x.climb(0);
        }
        x.mark(0, false);
        due.is("laying one undoes nothing", x.count(11), 16);
        due.is("undo()", x.undo(), true);
        due.is("a MARK that is none", x.mark(1, true), false);
        due.is("takes nothing away", x.count(11), 15);
        due.is("mark(0, true)", x.mark(0, true), true);
        due.is("nothing can be undone", x.count(11), 0);
        due.is("undo()", x.undo(), false);
        due.is("what STIRS", x.tenant(0, 5), 800);
        x.climb(0);
        due.is("one", x.count(11), 1);
        due.is("undo()", x.undo(), true);
        due.is("undo()", x.undo(), false);
        due.is("what STIRS", x.tenant(0, 5), 800);
    }

    private static void counts(Due due) {
        due.of("What 0: ROOMS, 1: TENANTS, 2: errands, 3: the minute, 4: coins of all, 5: how many are in, 6: EVICTED, 7: the"
                + " coffee's beats, 8: every, 9: lines of the MONTHS, 10: SAMPLES, 11: what can be undone, 12: signs on the TAPE."
                + " NONE for another what.");
        PulseRent x = Due.housed(HOUSE + "errand e opens 0 takes 1 adds 0 ; errand f opens 0 takes 1 adds 0 ;"
                + " errand g opens 0 takes 1 adds 0 ; errand h opens 0 takes 1 adds 0 ; errand i opens 0 takes 1 adds 0 ;"
                + " coffee 33 lasts 3 ; every 25 ; ");
        Due.months(x, "noon;".repeat(14));
        x.sample(0, 0);
        x.climb(0);
        x.minutes(110);
        x.undo();
        x.noon();
        x.minutes(100);
        x.drink(0);
        Due.feed(x, "room attic stairs");
        // cid could not pay 30 at the noon; ann paid 10, dot 5
        int[] want = {3, 4, 5, 100, 1085, 2, 1, 33, 25, 14, 1, 4, 17};
        for (int what = -3; what < 20; what++) {
            due.is("count(" + what + ")", x.count(what), what >= 0 && what < 13 ? want[what] : NONE);
        }
        due.of("The constants: `NONE = -1`: None.");
        due.is("NONE", PulseRent.NONE, -1);
        due.is("count of the greatest", x.count(Integer.MAX_VALUE), NONE);
        due.is("count of the least", x.count(Integer.MIN_VALUE), NONE);
    }
}
