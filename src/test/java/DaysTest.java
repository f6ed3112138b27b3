/** Promises 27 to 30: sample, days, did, next. */
public final class DaysTest {
    private static final int NONE = PulseRent.NONE;
    private static final String HOUSE = "room r stairs 60 noise 20 base 0 ; tenant ann plain rest 60 calm 10 coins 0 in r ; "
            + "tenant bob monk rest 50 calm 30 coins 0 ; tenant cid runner rest 55 calm 0 coins 0 ; "
            + "tenant dot sick rest 70 calm 20 coins 0 ; tenant eve plain rest 60 calm 40 coins 0 ; ";

    public static void main(String[] args) {
        Due due = new Due("DaysTest");
        samples(due);
        days(due);
        kinds(due);
        habits(due);
        firstOne(due);
        counting(due);
        others(due);
        due.end();
    }

    private static void samples(Due due) {
        PulseRent x = new PulseRent();
        due.is("sample(-1, 0)", x.sample(-1, 0), false);
        due.is("sample(6, 0)", x.sample(6, 0), false);
        due.is("sample(0, -1)", x.sample(0, -1), false);
        due.is("sample(0, 241)", x.sample(0, 241), false);
        due.is("count(10)", x.count(10), 0);
        due.is("sample(0, 0)", x.sample(0, 0), true);
        due.is("sample(5, 240)", x.sample(5, 240), true);
        due.is("the same again", x.sample(5, 240), true);
        due.is("otherwise", x.sample(5, 239), true);
        x.sample(1, 1);
        due.is("the sixth", x.sample(1, 2), true);
        due.is("6 there are", x.sample(1, 2), false);
        due.is("count(10)", x.count(10), 6);
    }

    private static void days(Due due) {
        PulseRent x = Due.housed(HOUSE);
        for (int tenant = 0; tenant < 5; tenant++) {
            due.is("without SAMPLES", x.days(tenant), 729);
            due.is("nothing first", x.did(tenant, 3), 0);
        }
        // ann: nothing 60, climbed 80, a fright 90
        x.sample(0, 80);
        due.is("days(0)", x.days(0), 243);
        due.is("did(0, 0)", x.did(0, 0), 1);
        // 10 left: 70 nothing, 90 climbed, 100 a fright
        x.sample(1, 100);
        due.is("days(0)", x.days(0), 81);
        due.is("did(0, 1)", x.did(0, 1), 2);
        due.is("did(0, 2)", x.did(0, 2), 0);
        x.sample(1, 100);
        due.is("the same SAMPLE", x.days(0), 81);
        x.sample(1, 99);
        due.is("none is so", x.days(0), 0);
        due.is("did(0, 0)", x.did(0, 0), NONE);
        due.is("next(0)", x.next(0), NONE);
    }

    private static int daysWith(int tenant, int... samples) {
        PulseRent x = Due.housed(HOUSE);
        for (int i = 0; i + 1 < samples.length; i += 2) {
            x.sample(samples[i], samples[i + 1]);
        }
        return x.days(tenant);
    }

    private static void kinds(Due due) {
        due.is("a monk who climbed, a quarter is left", daysWith(1, 0, 70, 1, 55), 81);
        due.is("a monk's fright", daysWith(1, 0, 60, 1, 52), 81);
        due.is("a runner's half", daysWith(2, 0, 65, 1, 60), 81);
        due.is("a runner's fright", daysWith(2, 0, 95), 243);
        due.is("a sick one's 20 more", daysWith(3, 0, 90), 243);
        due.is("a sick one's rest as told is none", daysWith(3, 0, 70), 0);
        // of dot a climb and a first fright are alike: 20 more
        due.is("climbed or frightened", daysWith(3, 0, 110), 486);
        due.is("calm as 40: nothing or a fright", daysWith(4, 0, 60), 486);
        due.is("noise and COFFEE are aside", daysWith(0, 0, 80), 243);
    }

    private static void habits(Due due) {
        // ann: frights of 30, 15, 10, 7, 6, 5 more
        due.is("frights alone", daysWith(0, 0, 90, 1, 90, 2, 85, 3, 79, 4, 75, 5, 72), 1);
        PulseRent x = Due.housed(HOUSE);
        x.fright(0, 9);
        x.fright(0, 9);
        x.climb(0);
        x.sample(0, 90);
        due.is("HABIT 0 and nothing STIRS at first", x.days(0), 243);
    }

    private static void firstOne(Due due) {
        PulseRent x = Due.housed(HOUSE);
        x.sample(0, 110);
        due.is("a climb ahead of a fright", x.did(3, 0), 1);
        PulseRent y = Due.housed(HOUSE);
        y.sample(0, 60);
        due.is("nothing ahead of a fright", y.did(4, 0), 0);
        // cid: 10 left of 20 (a climb ahead of minutes 0 and 1 is 10 + 5 = 15 and so on)
        PulseRent z = Due.housed(HOUSE);
        z.sample(5, 55);
        for (int minute = 0; minute < 6; minute++) {
            due.is("the first DAY is of nothing", z.did(2, minute), 0);
        }
        // eve, minute 1: 70 by a climb ahead of 0 alone, with or without frights
        PulseRent w = Due.housed(HOUSE);
        w.sample(1, 70);
        due.is("days(4)", w.days(4), 2 * 81);
        due.is("did(4, 0)", w.did(4, 0), 1);
        due.is("did(4, 1)", w.did(4, 1), 0);
        // ann, minute 1: 80 is nothing, climb; or 75 + .. none: 60 + 20
        PulseRent v = Due.housed(HOUSE);
        v.sample(1, 80);
        due.is("did(0, 0): nothing first", v.did(0, 0), 0);
        due.is("did(0, 1)", v.did(0, 1), 1);
    }

    private static void counting(Due due) {
        PulseRent x = Due.housed(HOUSE);
        // eve: who climbed in none of minutes 0 to 4, or of 1 to 5 (20 stairs are gone by then), 96 each
        due.is("of equal ones the first", x.next(4), 4);
        due.is("next(0)", x.next(0), 5);
        PulseRent y = Due.housed(HOUSE);
        y.sample(0, 60);
        y.sample(1, 60);
        y.sample(2, 60);
        y.sample(3, 60);
        y.sample(4, 60);
        // ann did nothing: only the last minute is left to part
        due.is("days(0)", y.days(0), 3);
        due.is("next(0)", y.next(0), 5);
        y.sample(5, 60);
        due.is("days(0)", y.days(0), 1);
        due.is("did(0, 5)", y.did(0, 5), 0);
        due.is("none parts one", y.next(0), NONE);
        due.is("eve's DAYS", y.days(4), 64);
        due.is("nor these", y.next(4), NONE);
        PulseRent z = Due.housed(HOUSE);
        z.sample(5, 60);
        z.sample(4, 60);
        z.sample(3, 60);
        z.sample(2, 60);
        // ann ahead of minute 2 did nothing, and a climb or fright ahead of 1 would be seen, ahead of 0 too
        due.is("days(0)", z.days(0), 1);
        due.is("eve climbed nowhere", z.days(4), 64);
        // dot had 20 in minute 1 by a climb, by a fright, or by two frights: the last is seen in minute 0 alone
        PulseRent w = Due.housed(HOUSE);
        int[] beats = {0, 110, 100, 95, 92, 91};
        for (int minute = 1; minute < 6; minute++) {
            w.sample(minute, beats[minute]);
        }
        due.is("days(3)", w.days(3), 3);
        due.is("next(3)", w.next(3), 0);
        due.is("next(3) again", w.next(3), 0);
        due.is("did(3, 0)", w.did(3, 0), 0);
        due.is("did(3, 1)", w.did(3, 1), 1);
        w.sample(0, 110);
        due.is("days(3)", w.days(3), 1);
        due.is("did(3, 0)", w.did(3, 0), 2);
        due.is("did(3, 1)", w.did(3, 1), 2);
    }

    private static void others(Due due) {
        PulseRent x = Due.housed(HOUSE);
        due.is("days(5)", x.days(5), NONE);
        due.is("days(-1)", x.days(-1), NONE);
        due.is("did(5, 0)", x.did(5, 0), NONE);
        due.is("did(-1, 0)", x.did(-1, 0), NONE);
        due.is("did(0, 6)", x.did(0, 6), NONE);
        due.is("did(0, -1)", x.did(0, -1), NONE);
        due.is("next(5)", x.next(5), NONE);
        due.is("next(-1)", x.next(-1), NONE);
    }
}
