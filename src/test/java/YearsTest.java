/** Promise 31: years. */
public final class YearsTest {
    private static final int NONE = PulseRent.NONE;
    private static final String HOUSE = "room attic stairs 40 noise 2 base 10 ; room cellar stairs 0 noise 9 base 5 ; "
            + "room hall stairs 15 noise 0 base 30 ; tenant ann plain rest 60 calm 10 coins 9000 in attic ; "
            + "tenant bob monk rest 50 calm 5 coins 3000 in cellar ; tenant cid runner rest 55 calm 0 coins 50 ; "
            + "tenant dot sick rest 70 calm 5 coins 4000 in hall ; loves ann bob ; coffee 25 lasts 12 ; every 2 ; ";

    public static void main(String[] args) {
        Due due = new Due("YearsTest");
        byHand(due);
        edges(due);
        others(due);
        due.end();
    }

    /** The same deeds by hand on another object: paid, in, beats. */
    private static int[] lived(PulseRent x, int seed, int noons) {
        long g = seed;
        int paid = 0;
        int beats = 0;
        for (int i = 0; i < noons; i++) {
            for (int t = 0; t < x.count(1); t++) {
                if (x.tenant(t, 4) != NONE) {
                    g = (g * 1103515245L + 12345L) & 0x7FFFFFFFL;
                    long draw = (g >> 16) % 6;
                    if (draw == 0) {
                        x.climb(t);
                    } else if (draw == 1) {
                        x.fright(t, 30);
                    } else if (draw == 2) {
                        x.drink(t);
                    }
                }
            }
            int before = counted(x);
            x.minutes(10);
            beats += counted(x) - before;
            paid += x.noon();
        }
        return new int[] {paid, x.count(5), beats};
    }

    private static int counted(PulseRent x) {
        int all = 0;
        for (int t = 0; t < x.count(1); t++) {
            all += x.tenant(t, 8);
        }
        return all;
    }

    private static void byHand(Due due) {
        int[][] tries = {{0, 1}, {1, 2}, {9999, 3}, {77, 7}, {4242, 10}, {5, 14}};
        for (int[] t : tries) {
            PulseRent x = Due.housed(HOUSE);
            PulseRent y = Due.housed(HOUSE);
            x.minutes(3);
            y.minutes(3);
            x.climb(0);
            y.climb(0);
            int[] want = lived(y, t[0], t[1]);
            for (int what = 0; what < 3; what++) {
                due.is("years(" + t[0] + ", " + t[1] + ", " + what + ")", x.years(t[0], t[1], what), want[what]);
            }
            due.is("the minute is as ahead", x.count(3), 3);
            due.is("coins are as ahead", x.count(4), 16050);
            due.is("what STIRS is as ahead", x.tenant(0, 5), 40);
            due.is("nothing to undo more", x.count(11), 2);
        }
    }

    private static void edges(Due due) {
        // seed 0: g = 12345, the draw is 0: CLIMB; 12 beats of 60 .. : 10 minutes of 40 and 60, 30, 15, 7, 3, 1
        PulseRent x = Due.housed("room r stairs 60 noise 0 base 0 ; tenant t plain rest 40 calm 0 coins 9999 in r ; ");
        due.is("beats", x.years(0, 1, 2), 400 + 116);
        due.is("paid", x.years(0, 1, 0), 516);
        due.is("in", x.years(0, 1, 1), 1);
        PulseRent poor = Due.housed("room r stairs 60 noise 0 base 0 ; tenant t plain rest 40 calm 0 coins 0 in r ; ");
        due.is("beats till EVICTED", poor.years(0, 30, 2), 516);
        due.is("nothing is paid", poor.years(0, 30, 0), 0);
        due.is("nobody is in", poor.years(0, 30, 1), 0);
        due.is("he is in now", poor.count(5), 1);
        PulseRent y = new PulseRent();
        due.is("an empty house", y.years(9999, 30, 2), 0);
    }

    private static void others(Due due) {
        PulseRent x = Due.housed(HOUSE);
        due.is("seed -1", x.years(-1, 1, 0), NONE);
        due.is("seed 10000", x.years(10000, 1, 0), NONE);
        due.is("0 noons", x.years(1, 0, 0), NONE);
        due.is("31 noons", x.years(1, 31, 0), NONE);
        due.is("what 3", x.years(1, 1, 3), NONE);
        due.is("what -1", x.years(1, 1, -1), NONE);
    }
}
