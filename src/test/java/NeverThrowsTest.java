import java.util.NoSuchElementException;
import java.util.Random;

/** No call throws but lease and share, in any state, for any arguments; queries change nothing. */
public final class NeverThrowsTest {
    private static final String[] WORDS = ("room stairs noise base tenant rest calm coins in loves errand opens takes adds"
            + " coffee lasts every due wish climb fright drink minutes noon move plain monk runner sick not and or beats"
            + " floor kind steps loud ann bob attic hall shop ( ) < = + - * ; ; ; 0 1 7 40 50 60 99 120 999 9999 10000"
            + " toolongaword % A").split(" ");
    private static final String HOUSE = "room attic stairs 40 noise 2 base 10 ; room hall stairs 0 noise 9 base 5 ; "
            + "tenant ann plain rest 60 calm 10 coins 7000 in attic ; tenant bob monk rest 50 calm 30 coins 300 in hall ; "
            + "tenant cid runner rest 55 calm 0 coins 0 ; tenant dot sick rest 70 calm 5 coins 100 ; loves ann bob ; "
            + "errand shop opens 3 takes 2 adds 10 ; errand post opens 0 takes 1 adds 30 ; ";

    public static void main(String[] args) {
        Due due = new Due("NeverThrowsTest");
        Random random = new Random(20261118);
        int thrown = 0;
        int changed = 0;
        for (int run = 0; run < 150; run++) {
            PulseRent x = new PulseRent();
            if (run % 3 != 0) {
                Due.house(x, HOUSE + (run % 2 == 0 ? "every 3 ; due beats * beats - floor ;" : ""));
            }
            for (int i = 0; i < 300; i++) {
                try {
                    long before = look(x);
                    int call = random.nextInt(32);
                    answer(x, call, random);
                    changed += call < 18 && before != look(x) ? 1 : 0;
                } catch (RuntimeException e) {
                    thrown++;
                    System.out.println("thrown: " + e);
                }
            }
        }
        due.is("thrown", thrown, 0);
        due.is("changed by a query", changed, 0);
        due.end();
    }

    private static long look(PulseRent x) {
        long all = 0;
        for (int what = 0; what < 13; what++) {
            all = all * 31 + x.count(what);
        }
        for (int tenant = 0; tenant < 6; tenant++) {
            for (int what = 0; what < 10; what++) {
                all = all * 31 + x.tenant(tenant, what);
            }
        }
        return all;
    }

    private static int pick(Random random, int most) {
        int[] odd = {-1, 0, most, most + 1, 6, 7, 30, 31, 240, 241, Integer.MAX_VALUE, Integer.MIN_VALUE};
        return random.nextInt(4) == 0 ? odd[random.nextInt(odd.length)] : random.nextInt(most + 1);
    }

    private static void answer(PulseRent x, int call, Random r) {
        switch (call) {
            case 0 -> x.room(pick(r, 2), pick(r, 3));
            case 1 -> x.tenant(pick(r, 4), pick(r, 9));
            case 2 -> x.pulse(pick(r, 4));
            case 3 -> x.judged(pick(r, 2));
            case 4 -> x.owed(pick(r, 4));
            case 5 -> x.will(pick(r, 4), pick(r, 240));
            case 6 -> x.last(pick(r, 4), pick(r, 240));
            case 7 -> x.errands(pick(r, 4), pick(r, 3));
            case 8 -> x.match(pick(r, 4));
            case 9 -> x.spare(pick(r, 4), pick(r, 4));
            case 10 -> x.sampled(pick(r, 30), pick(r, 10), pick(r, 10), pick(r, 5));
            case 11 -> x.haunt(pick(r, 4), pick(r, 3), pick(r, 99), pick(r, 1));
            case 12 -> leaseAndShare(x, pick(r, 4), pick(r, 4));
            case 13 -> x.law(pick(r, 60), pick(r, 240));
            case 14 -> x.days(pick(r, 4));
            case 15 -> x.did(pick(r, 4), pick(r, 5));
            case 16 -> x.next(pick(r, 4));
            case 17 -> x.years(pick(r, 9999), pick(r, 30), pick(r, 2));
            case 18 -> x.climb(pick(r, 4));
            case 19 -> x.fright(pick(r, 4), pick(r, 99));
            case 20 -> x.drink(pick(r, 4));
            case 21, 22 -> x.minutes(pick(r, 9));
            case 23 -> x.noon();
            case 24 -> x.move(pick(r, 4), pick(r, 2));
            case 25 -> x.undo();
            case 26 -> x.mark(pick(r, 3), r.nextInt(4) == 0);
            case 27 -> x.sample(pick(r, 5), pick(r, 120));
            case 28 -> x.feed(r.nextLong(), r.nextLong(), r.nextLong());
            case 29 -> Due.house(x, r.nextInt(3) == 0 ? HOUSE : words(r));
            case 30 -> Due.months(x, r.nextInt(3) == 0 ? "move dot hall ; noon ; minutes 50 ; noon ;" : words(r));
            default -> x.count(pick(r, 13));
        }
    }

    private static void leaseAndShare(PulseRent x, int tenant, int other) {
        try {
            x.lease(tenant, other);
            x.share(tenant, other);
        } catch (NoSuchElementException e) {
            // the one exception that the document names
            return;
        }
    }

    private static String words(Random r) {
        StringBuilder text = new StringBuilder();
        int many = r.nextInt(40);
        for (int i = 0; i < many; i++) {
            text.append(WORDS[r.nextInt(WORDS.length)]).append(r.nextInt(5) == 0 ? "" : " ");
        }
        return text.toString();
    }
}
