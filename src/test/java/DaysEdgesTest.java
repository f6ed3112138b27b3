import java.util.Arrays;
import java.util.Random;

/** The boundary cases of promises 27 to 30 (sample, days, did, next), a sentence each, and DAYS by going through all. */
public final class DaysEdgesTest {
    private static final int NONE = PulseRent.NONE;
    private static final int[] NOBODY = {-1, 5, 6, 7, 31, 32, Integer.MAX_VALUE, Integer.MIN_VALUE};
    private static final String[] KINDS = {"plain", "monk", "runner", "sick"};
    private static final String HOUSE = "room r stairs 60 noise 20 base 0 ; tenant ann plain rest 60 calm 10 coins 0 in r ; "
            + "tenant bob monk rest 50 calm 30 coins 0 ; tenant cid runner rest 55 calm 0 coins 0 ; "
            + "tenant dot sick rest 70 calm 20 coins 0 ; tenant eve plain rest 60 calm 40 coins 0 ; coffee 60 lasts 120 ; ";

    public static void main(String[] args) {
        Due due = new Due("DaysEdgesTest");
        sampleBounds(due);
        sixSamples(due);
        others(due);
        atRest(due);
        gone(due);
        noDay(due);
        first(due);
        noneParts(due);
        byGoingThroughAll(due);
        due.end();
    }

    private static void sampleBounds(Due due) {
        due.of("that he had so many beats (0 to 240) in a minute (0 to 5); 6 at most");
        int[] minutes = {Integer.MIN_VALUE, -1, 0, 1, 4, 5, 6, 7, Integer.MAX_VALUE};
        int[] beats = {Integer.MIN_VALUE, -1, 0, 1, 239, 240, 241, Integer.MAX_VALUE};
        for (int minute : minutes) {
            for (int much : beats) {
                PulseRent x = new PulseRent();
                boolean can = minute >= 0 && minute <= 5 && much >= 0 && much <= 240;
                due.is("sample(" + minute + ", " + much + ")", x.sample(minute, much), can);
                due.is("SAMPLES", x.count(10), can ? 1 : 0);
                due.is("it can't be undone", x.undo(), false);
            }
        }
    }

    private static void sixSamples(Due due) {
        due.of("A SAMPLE: true; false: others, 6 there are.");
        PulseRent x = Due.housed(HOUSE);
        for (int i = 0; i < 5; i++) {
            due.is("sample " + i, x.sample(i, 60), true);
        }
        due.is("one that is none", x.sample(6, 60), false);
        due.is("SAMPLES", x.count(10), 5);
        due.is("days(0)", x.days(0), 3);
        due.is("the sixth", x.sample(5, 80), true);
        due.is("days(0)", x.days(0), 1);
        due.is("a seventh", x.sample(5, 90), false);
        due.is("an equal one", x.sample(5, 80), false);
        due.is("SAMPLES", x.count(10), 6);
        due.is("it is not taken", x.days(0), 1);
        due.is("the sixth is", x.did(0, 5), 1);
        PulseRent same = Due.housed(HOUSE);
        for (int i = 0; i < 6; i++) {
            due.is("six of one minute", same.sample(0, 80), true);
        }
        due.is("days(0)", same.days(0), 243);
        due.is("another minute", same.sample(1, 60), false);
    }

    private static void others(Due due) {
        PulseRent x = Due.housed(HOUSE);
        for (int n : NOBODY) {
            due.of("DAYS of one by all SAMPLES; NONE: others.");
            due.is("days(" + n + ")", x.days(n), NONE);
            due.of("COUNT; NONE: others, none parts them.");
            due.is("next(" + n + ")", x.next(n), NONE);
            due.of("DID ahead of a minute (0 to 5), by the first: 0 nothing, 1 climbed, 2 took a fright; NONE: others, no DAY.");
            due.is("did(" + n + ", 0)", x.did(n, 0), NONE);
        }
        int[] minutes = {Integer.MIN_VALUE, -1, 0, 5, 6, Integer.MAX_VALUE};
        for (int minute : minutes) {
            due.is("did(0, " + minute + ")", x.did(0, minute), minute >= 0 && minute <= 5 ? 0 : NONE);
        }
        due.is("the last TENANT", x.days(4), 729);
        due.is("no HOUSE", new PulseRent().days(0), NONE);
    }

    private static void atRest(Due due) {
        due.of("SAMPLES of one at rest (his kind, calm, HABIT 0, a PULSE of rest and what STIRS him alone)");
        PulseRent x = Due.housed(HOUSE + "loves ann bob ; loves bob ann ; ");
        x.move(1, 0);
        x.climb(0);
        x.fright(0, 99);
        x.drink(0);
        x.sample(0, 60);
        due.is("nothing done: rest alone", x.days(0), 243);
        due.is("did(0, 0)", x.did(0, 0), 0);
        PulseRent sick = Due.housed(HOUSE);
        sick.sample(0, 90);
        due.is("a sick one's 20 more", sick.days(3), 243);
        due.is("nothing", sick.did(3, 0), 0);
        due.of("nothing, climbed (20 stairs; a runner's half), took a fright (of 40)");
        int[] rest = {60, 50, 55, 90, 60};
        int[] climbed = {20, 20, 10, 20, 20};
        int[] frightened = {30, 10, 40, 20, 0};
        for (int tenant = 0; tenant < 5; tenant++) {
            for (int beats = 0; beats <= 240; beats++) {
                int more = beats - rest[tenant];
                int ways = (more == 0 ? 1 : 0) + (more == climbed[tenant] ? 1 : 0) + (more == frightened[tenant] ? 1 : 0);
                if (ways > 0 || beats % 40 == 0) {
                    PulseRent y = Due.housed(HOUSE);
                    y.sample(0, beats);
                    due.is("days(" + tenant + ") of " + beats, y.days(tenant), 243 * ways);
                }
            }
        }
    }

    private static void gone(Due due) {
        due.of("DAYS of one by all SAMPLES; NONE: others.");
        PulseRent x = Due.housed(HOUSE + "due 9999 ; ");
        x.noon();
        due.is("EVICTED", x.tenant(0, 9), 1);
        due.is("his DAYS", x.days(0), 729);
        due.is("of one who is out", x.days(1), 729);
        due.is("did", x.did(0, 5), 0);
        due.is("next", x.next(0) >= 0, true);
    }

    private static void noDay(Due due) {
        due.of("NONE: others, no DAY.");
        PulseRent x = Due.housed(HOUSE);
        x.sample(3, 0);
        for (int tenant = 0; tenant < 5; tenant++) {
            due.is("days(" + tenant + ")", x.days(tenant), 0);
            for (int minute = 0; minute < 6; minute++) {
                due.is("did(" + tenant + ", " + minute + ")", x.did(tenant, minute), NONE);
            }
            due.is("next(" + tenant + ")", x.next(tenant), NONE);
        }
        PulseRent y = Due.housed(HOUSE);
        y.sample(2, 60);
        y.sample(2, 80);
        due.is("two SAMPLES that can't both be so", y.days(0), 0);
        PulseRent high = Due.housed(HOUSE);
        high.sample(0, 240);
        due.is("240", high.days(3), 0);
    }

    private static void first(Due due) {
        due.of("what he did ahead of a minute by the first one (nothing, climb, fright)");
        // of eve a fright is as nothing, of dot a first fright as a climb
        PulseRent x = Due.housed(HOUSE);
        x.sample(0, 110);
        x.sample(5, 90);
        int[] want = {1, 0, 0, 0, 0, 0};
        for (int minute = 0; minute < 6; minute++) {
            due.is("did(3, " + minute + ")", x.did(3, minute), want[minute]);
        }
        PulseRent y = Due.housed(HOUSE);
        y.sample(0, 60);
        y.sample(1, 80);
        // of the climb ahead of minute 1 one beat is left
        y.sample(5, 81);
        int[] eve = {0, 1, 0, 0, 0, 1};
        for (int minute = 0; minute < 6; minute++) {
            due.is("did(4, " + minute + ")", y.did(4, minute), eve[minute]);
        }
        PulseRent only = Due.housed(HOUSE);
        int[] beats = {90, 90, 85, 79, 75, 72};
        for (int minute = 0; minute < 6; minute++) {
            only.sample(minute, beats[minute]);
        }
        due.is("one DAY", only.days(0), 1);
        for (int minute = 0; minute < 6; minute++) {
            due.is("frights: did(0, " + minute + ")", only.did(0, minute), 2);
        }
    }

    private static void noneParts(Due due) {
        due.of("by which the greatest number of those DAYS with like beats is the least, if that is less than all; of equal ones"
                + " the first");
        PulseRent x = Due.housed(HOUSE);
        for (int minute = 0; minute < 6; minute++) {
            due.is("parts ann's DAYS", x.next(0) >= minute, true);
            x.sample(minute, 60);
        }
        due.is("one DAY is left", x.days(0), 1);
        due.is("none parts one", x.next(0), NONE);
        due.is("many are left", x.days(4), 64);
        due.is("none parts these", x.next(4), NONE);
        PulseRent last = Due.housed(HOUSE);
        for (int minute = 0; minute < 5; minute++) {
            last.sample(minute, 60);
        }
        due.is("only minute 5 is left", last.next(0), 5);
        PulseRent none = Due.housed(HOUSE);
        none.sample(0, 1);
        due.is("no DAY at all", none.next(0), NONE);
    }

    /** All 729 DAYS, each by its number of three digits, the first digit telling of minute 0. */
    private static int[][] allDays(int kind, int rest, int calm) {
        int[][] beats = new int[729][6];
        for (int day = 0; day < 729; day++) {
            int stir = 0;
            int habit = 0;
            for (int minute = 0; minute < 6; minute++) {
                int did = did(day, minute);
                if (did == 1) {
                    stir += kind == 2 ? 10 : 20;
                } else if (did == 2) {
                    stir += Math.max(0, 40 - calm) / (1 + habit);
                    habit++;
                }
                beats[day][minute] = rest + (kind == 3 ? 20 : 0) + stir;
                stir /= kind == 1 ? 4 : 2;
            }
        }
        return beats;
    }

    private static int did(int day, int minute) {
        int[] weights = {243, 81, 27, 9, 3, 1};
        return day / weights[minute] % 3;
    }

    private static void byGoingThroughAll(Due due) {
        due.of("DAYS by which all SAMPLES are so: how many");
        Random random = new Random(6);
        for (int i = 0; i < 1500; i++) {
            int kind = random.nextInt(4);
            int rest = 40 + random.nextInt(60);
            int calm = random.nextInt(41);
            int[][] beats = allDays(kind, rest, calm);
            PulseRent x = Due.housed("tenant t " + KINDS[kind] + " rest " + rest + " calm " + calm + " coins 0 ; ");
            int lived = random.nextInt(729);
            boolean[] so = new boolean[729];
            Arrays.fill(so, true);
            int many = random.nextInt(7);
            for (int s = 0; s < many; s++) {
                int minute = random.nextInt(6);
                int told = beats[lived][minute] + (random.nextInt(20) == 0 ? 1 : 0);
                x.sample(minute, told);
                for (int day = 0; day < 729; day++) {
                    so[day] &= beats[day][minute] == told;
                }
            }
            compare(due, x, beats, so);
        }
    }

    private static void compare(Due due, PulseRent x, int[][] beats, boolean[] so) {
        int days = 0;
        int first = NONE;
        int[][] alike = new int[6][241];
        for (int day = 728; day >= 0; day--) {
            if (so[day]) {
                days++;
                first = day;
                for (int minute = 0; minute < 6; minute++) {
                    alike[minute][beats[day][minute]]++;
                }
            }
        }
        int next = NONE;
        int least = days;
        for (int minute = 0; minute < 6; minute++) {
            int most = Arrays.stream(alike[minute]).max().getAsInt();
            next = most < least ? minute : next;
            least = Math.min(least, most);
        }
        due.is("days(0)", x.days(0), days);
        due.is("next(0)", x.next(0), next);
        for (int minute = 0; minute < 6; minute++) {
            due.is("did(0, " + minute + ")", x.did(0, minute), first == NONE ? NONE : did(first, minute));
        }
    }
}
