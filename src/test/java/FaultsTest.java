import java.util.ArrayList;
import java.util.Arrays;
import java.util.List;
import java.util.Random;

/** FAULTS of texts with a wrong token at any place, by what must be wrong there and by another model of the language. */
public final class FaultsTest {
    private static final String HOUSE = "room attic stairs 40 noise 2 base 10 ; room hall stairs 0 noise 9 base 5 ; "
            + "tenant ann plain rest 60 calm 10 coins 700 in attic ; tenant bob monk rest 50 calm 30 coins 300 in hall ; "
            + "tenant cid runner rest 55 calm 0 coins 0 ; loves ann bob ; loves bob ann ; errand shop opens 3 takes 2 adds 10 ; "
            + "errand post opens 0 takes 1 adds 30 ; coffee 20 lasts 3 ; every 2 ; "
            + "due ( beats + 7 ) * 2 < floor - 3 and not kind or not ( not ( 1 ) = 0 ) ; "
            + "wish 0 - steps * ( loud + floor ) = kind or 1 and ( ( ( not 2 ) ) ) ; ";
    private static final String MONTHS = "climb ann ; fright bob 99 ; drink cid ; minutes 120 ; noon ; move cid attic ; noon ; ";
    private static final String[] WORDS = ("room stairs noise base tenant rest calm coins in loves errand opens takes adds"
            + " coffee lasts every due wish climb fright drink minutes noon move plain monk runner sick not and or beats"
            + " floor kind steps loud ann bob cid dan attic hall shop post ( ) < = + - * ; ; ; 0 1 7 20 21 30 31 39 40 41 60 61"
            + " 99 100 120 121 999 1000 9999 10000 toolongaw % A ( ( not not").split(" ");

    public static void main(String[] args) {
        Due due = new Due("FaultsTest");
        everyPlace(due);
        theLeast(due);
        byTheModel(due);
        due.end();
    }

    /** Puts another token, or the end, in the place of each one. */
    private static void everyPlace(Due due) {
        due.of("FAULTS, kind + 16 * the place (from 0) of a token, the end being one at the text's length: of the first token"
                + " from the left that is wrong the least: 1 it is none, or can't stand there");
        String[] wrong = {"!", "toolongaw", "12345", "A", "{"};
        for (int which = 0; which < 2; which++) {
            String text = which == 0 ? HOUSE : MONTHS;
            for (int i = 0; i < text.length(); i++) {
                if (text.charAt(i) != ' ' && (i == 0 || text.charAt(i - 1) == ' ')) {
                    int behind = text.indexOf(' ', i);
                    boolean begins = i == 0 || text.charAt(i - 2) == ';';
                    due.is("cut at " + i, fault(which, text.substring(0, i)), begins ? 0 : 1 + 16 * i);
                    due.is("cut short at " + i, fault(which, text.substring(0, i).trim()), begins ? 0 : 1 + 16 * (i - 1));
                    for (String token : wrong) {
                        String replaced = text.substring(0, i) + token + text.substring(behind);
                        due.is(token + " at " + i, fault(which, replaced), 1 + 16 * i);
                    }
                }
            }
        }
    }

    private static int fault(int which, String text) {
        PulseRent x = new PulseRent();
        if (which == 0) {
            return Due.house(x, text);
        }
        Due.house(x, HOUSE);
        return Due.months(x, text);
    }

    private static void theLeast(Due due) {
        due.of("of the first token from the left that is wrong the least");
        PulseRent x = new PulseRent();
        due.faultyHouse(x, 4, "every ^31 ; every 1 ; !");
        due.faultyHouse(x, 3, "every 30 ; ^every 31 ; !");
        due.faultyHouse(x, 1, "every 30 ; ^! every 31 ;");
        due.faultyHouse(x, 1, "every ^31000 ;");
        due.faultyHouse(x, 1, "due ( ( ( ( ( ^steps ;");
        due.faultyHouse(x, 1, "due ( ( ( ( ( ^; ;");
        due.faultyHouse(x, 1, "due ( ( ( ( ( ^");
        due.faultyHouse(x, 1, "due not not not not not ^12345 ;");
        due.faultyHouse(x, 2, "tenant a sick rest 40 calm 0 coins 0 ; loves ^b b ;");
        due.faultyHouse(x, 2, "tenant a sick rest 40 calm 0 coins 0 in ^a ;");
    }

    private static void byTheModel(Due due) {
        due.of("of the first token from the left that is wrong the least");
        Random random = new Random(18112026);
        int[] seen = new int[6];
        for (int i = 0; i < 30000; i++) {
            String text = spoilt(random, random.nextInt(3) == 0 ? crowded(random) : HOUSE);
            FaultModel model = new FaultModel();
            int want = model.house(text);
            due.is("house() of " + text, fault(0, text), want);
            seen[want % 16]++;
        }
        for (int i = 0; i < 10000; i++) {
            String text = spoilt(random, random.nextInt(3) == 0 ? MONTHS.repeat(5) : MONTHS);
            FaultModel model = new FaultModel();
            due.is("the HOUSE of the MONTHS", model.house(HOUSE), 0);
            int want = model.months(text);
            due.is("months() of " + text, fault(1, text), want);
            seen[want % 16]++;
        }
        for (int kind = 0; kind < seen.length; kind++) {
            due.is("FAULTS of kind " + kind + " came often: " + seen[kind], seen[kind] > 100, true);
        }
    }

    /** A HOUSE with many of a kind, so that one more may be too many; cut to what a TAPE holds. */
    private static String crowded(Random random) {
        String[] lines = {"room # stairs 1 noise 1 base 1 ; ", "errand # opens 1 takes 1 adds 1 ; ",
            "tenant # sick rest 40 calm 0 coins 0 ; "};
        StringBuilder text = new StringBuilder();
        int more = random.nextInt(3);
        for (int i = 0; i < 18; i++) {
            int line = random.nextInt(2) == 0 ? more : random.nextInt(3);
            text.append(lines[line].replace("#", "" + (char) ('a' + i)));
        }
        return text.toString();
    }

    /** One NAME in the place of another: told already, or of another kind of thing. */
    private static void rename(Random random, List<String> tokens) {
        List<String> names = Arrays.asList("ann", "bob", "cid", "attic", "hall", "shop", "post", "a", "b", "c");
        for (int tries = 0; tries < 50; tries++) {
            int at = random.nextInt(tokens.size());
            if (names.contains(tokens.get(at))) {
                tokens.set(at, names.get(random.nextInt(names.size())));
                return;
            }
        }
    }

    private static String spoilt(Random random, String text) {
        List<String> tokens = new ArrayList<>(Arrays.asList(text.trim().split(" ")));
        if (random.nextInt(4) == 0) {
            rename(random, tokens);
        }
        int times = random.nextInt(4);
        for (int i = 0; i < times; i++) {
            int at = random.nextInt(tokens.size());
            String word = WORDS[random.nextInt(WORDS.length)];
            switch (random.nextInt(5)) {
                case 0: tokens.add(at, word); break;
                case 1: tokens.remove(at); break;
                case 2: tokens.add(at, tokens.get(random.nextInt(tokens.size()))); break;
                case 3: tokens.set(at, tokens.get(random.nextInt(tokens.size()))); break;
                default: tokens.set(at, word);
            }
        }
        StringBuilder joined = new StringBuilder();
        int tight = random.nextInt(3) == 0 ? 4 : 40;
        for (String token : tokens) {
            joined.append(token).append(random.nextInt(tight) == 0 ? "" : random.nextInt(9) == 0 ? "\n" : " ");
        }
        return joined.length() > 1000 ? joined.substring(0, 1000) : joined.toString();
    }
}
