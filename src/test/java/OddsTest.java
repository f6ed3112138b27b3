/** Promises 22 and 23: sampled and haunt. */
public final class OddsTest {
    private static final int NONE = PulseRent.NONE;

    public static void main(String[] args) {
        Due due = new Due("OddsTest");
        sampled(due);
        sampledOthers(due);
        haunt(due);
        hauntBits(due);
        hauntFromNow(due);
        hauntOthers(due);
        due.end();
    }

    private static void sampled(Due due) {
        PulseRent x = new PulseRent();
        due.is("48 of 90", x.sampled(10, 3, 2, 1), 533333);
        due.is("3 of 45", x.sampled(10, 3, 2, 2), 66666);
        due.is("none or more", x.sampled(10, 3, 2, 0), 1000000);
        due.is("all are bad", x.sampled(30, 30, 30, 30), 1000000);
        due.is("none is bad", x.sampled(30, 0, 30, 1), 0);
        due.is("none is counted", x.sampled(30, 30, 0, 0), 1000000);
        due.is("more than are bad", x.sampled(10, 2, 5, 3), 0);
        due.is("all that are good are too few", x.sampled(10, 8, 5, 3), 1000000);
        due.is("one", x.sampled(1, 1, 1, 1), 1000000);
        // C(15, 15) of C(30, 15) = 155117520
        due.is("cut", x.sampled(30, 15, 15, 15), 0);
        due.is("half and the middle's half", x.sampled(30, 15, 15, 8), 500000);
        // 1 - C(25, 6) / C(30, 6) = 1 - 177100 / 593775
        due.is("1 or more of 5", x.sampled(30, 5, 6, 1), 701738);
    }

    private static void sampledOthers(Due due) {
        PulseRent x = new PulseRent();
        int[][] others = {{0, 0, 0, 0}, {31, 3, 2, 1}, {10, 11, 2, 1}, {10, -1, 2, 1}, {10, 3, 11, 1}, {10, 3, -1, 0},
            {10, 3, 2, 3}, {10, 3, 2, -1}, {-5, 0, 0, 0}, {Integer.MAX_VALUE, 1, 1, 1}};
        for (int[] o : others) {
            due.is("others", x.sampled(o[0], o[1], o[2], o[3]), NONE);
        }
    }

    private static PulseRent alone(String kind, String more) {
        return Due.housed("room r stairs 40 noise 2 base 10 ; tenant t " + kind + " rest 60 calm 10 coins 700 in r ; " + more);
    }

    private static void haunt(Due due) {
        PulseRent x = alone("plain", "");
        // 62 in 12 minutes; a fright of 50 at once: 40 + 20 + 10 + 5 + 2 + 1
        due.is("one", x.haunt(0, 1, 50, 0), 12 * 62 + 78);
        due.is("as early as it counts whole: minutes 0 to 6", x.haunt(0, 1, 50, 1), 1);
        // by 1 and 2: 78 and 20 + 10 + 5 + 2 + 1, apart or not; cut less if together
        due.is("a calm one", x.haunt(0, 1, 10, 0), 12 * 62);
        due.is("the least minutes of equal ones", x.haunt(0, 3, 10, 1), 7);
        due.is("nobody is frightened", x.tenant(0, 7), 0);
        PulseRent one = Due.housed("room r stairs 0 noise 0 base 0 ; tenant t plain rest 60 calm 0 coins 0 in r ; ");
        due.is("a fright of 1", one.haunt(0, 1, 1, 0), 12 * 60 + 1);
        due.is("a fright of 99", one.haunt(0, 1, 99, 0), 12 * 60 + 99 + 49 + 24 + 12 + 6 + 3 + 1);
        PulseRent monk = alone("monk", "");
        due.is("a monk: 40 + 10 + 2", monk.haunt(0, 1, 50, 0), 12 * 62 + 52);
    }

    private static void hauntBits(Due due) {
        PulseRent x = alone("plain", "every 12 ; ");
        // one minute is counted, the first: all must be ahead of it, but no two ahead of one
        due.is("most", x.haunt(0, 2, 50, 0), 12 * (62 + 40));
        due.is("minutes 0 and 1", x.haunt(0, 2, 50, 1), 3);
        x.minutes(1);
        // now it is the last of the 12: 40 ahead of it, the second one then only 20
        due.is("most", x.haunt(0, 1, 50, 0), 12 * (62 + 40));
        due.is("minute 11", x.haunt(0, 1, 50, 1), 1 << 11);
        // 40 half gone and 20: 40; or 20 and 40 / 2 .. the same by any order: 10 and 11
        due.is("most of two", x.haunt(0, 2, 50, 0), 12 * (62 + 20 + 20));
        due.is("minutes 10 and 11", x.haunt(0, 2, 50, 1), 3 << 10);
        due.is("most of three", x.haunt(0, 3, 50, 0), 12 * (62 + 10 + 10 + 13));
        due.is("minutes 9 to 11", x.haunt(0, 3, 50, 1), 7 << 9);
    }

    private static void hauntFromNow(Due due) {
        PulseRent x = alone("sick", "coffee 30 lasts 2 ; ");
        x.drink(0);
        x.climb(0);
        x.minutes(1);
        x.fright(0, 11);
        // 82 in 12 minutes, 30 of COFFEE in one, stirred by 21 + 10 + 5 + 2 + 1, and 20 of a second fright
        due.is("what was counted is aside", x.haunt(0, 1, 50, 0), 12 * 82 + 30 + 41 + 20 + 10 + 5 + 2 + 1);
        due.is("minute 0", x.haunt(0, 1, 50, 1), 1);
        due.is("HABIT stays", x.tenant(0, 7), 1);
        PulseRent capped = Due.housed("room r stairs 60 noise 20 base 0 ; tenant t sick rest 99 calm 0 coins 0 in r ;"
                + " coffee 60 lasts 1 ; ");
        capped.drink(0);
        // 199 with COFFEE in minute 0: 99 more would be cut at 240 there, so it is told ahead of minute 1
        due.is("240 at most", capped.haunt(0, 1, 99, 1), 2);
        due.is("most", capped.haunt(0, 1, 99, 0), 199 + 11 * 139 + 99 + 49 + 24 + 12 + 6 + 3 + 1);
    }

    private static void hauntOthers(Due due) {
        PulseRent x = Due.housed("room r stairs 40 noise 2 base 10 ; tenant t plain rest 60 calm 10 coins 700 in r ; "
                + "tenant u plain rest 60 calm 10 coins 700 ; ");
        due.is("0 frights", x.haunt(0, 0, 50, 0), NONE);
        due.is("4 frights", x.haunt(0, 4, 50, 0), NONE);
        due.is("0 beats", x.haunt(0, 1, 0, 0), NONE);
        due.is("100 beats", x.haunt(0, 1, 100, 0), NONE);
        due.is("what 2", x.haunt(0, 1, 50, 2), NONE);
        due.is("what -1", x.haunt(0, 1, 50, -1), NONE);
        due.is("out", x.haunt(1, 1, 50, 0), NONE);
        due.is("nobody", x.haunt(2, 1, 50, 0), NONE);
        due.is("nobody", x.haunt(-1, 1, 50, 0), NONE);
    }
}
