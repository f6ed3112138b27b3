import java.util.Random;

/** The boundary cases of E, a sentence each, and the values of many an E whose value is known as it is made. */
public final class FormulaEdgesTest {
    private static final String[] KINDS = {"plain", "monk", "runner", "sick"};
    private static final String ONE = "room r stairs 11 noise 5 base 7 ; tenant t sick rest 40 calm 0 coins 0 in r ; ";

    public static void main(String[] args) {
        Due due = new Due("FormulaEdgesTest");
        tests(due);
        fromTheLeft(due);
        ones(due);
        wraps(due);
        nested(due);
        oneTooDeep(due);
        facts(due);
        dueBounds(due);
        withoutDue(due);
        withoutWish(due);
        longest(due);
        new Maker(new Random(33)).compare(due);
        due.end();
    }

    private static void owes(Due due, String e, long want) {
        due.is("owed(0) by " + e, Due.housed(ONE + "due " + e + " ;").owed(0), want);
    }

    private static void tests(Due due) {
        due.of("TEST: SUM, or SUM < SUM, or SUM = SUM");
        String[] below = {"0 - 1", "0", "6", "7"};
        for (int i = 0; i < below.length; i++) {
            for (int j = 0; j < below.length; j++) {
                owes(due, below[i] + " < " + below[j], i < j ? 1 : 0);
                owes(due, below[i] + " = " + below[j], i == j ? 1 : 0);
            }
        }
        PulseRent x = new PulseRent();
        due.faultyHouse(x, 1, "due 1 < 2 ^< 3 ;");
        due.faultyHouse(x, 1, "due 1 < 2 ^= 3 ;");
        due.faultyHouse(x, 1, "due 1 = 2 ^= 3 ;");
        due.faultyHouse(x, 1, "due ( 1 = 2 ^= 3 ) ;");
        due.faultyHouse(x, 1, "due 1 = 2 + 3 ^< 3 ;");
        owes(due, "( 1 < 2 ) < 3", 1);
        owes(due, "3 < ( 1 < 2 )", 0);
        owes(due, "1 < 2 and 2 = 2 or 3 < 2", 1);
        owes(due, "( 2 = 2 ) = 1 and 5 < 6", 1);
        due.of("SUM: PRODUCT { + or - PRODUCT }; PRODUCT: PART { * PART }");
        owes(due, "9 - 3 + 2", 8);
        owes(due, "9 - 3 - 2 - 1", 3);
        owes(due, "9 + 3 * 2 - 1", 14);
        owes(due, "2 * 3 * 4", 24);
        owes(due, "3 + 4 < 2 * 4", 1);
        owes(due, "3 + 4 = 2 * 4 - 1", 1);
    }

    private static void fromTheLeft(Due due) {
        due.of("E: TEST { and TEST or or TEST }, from the left");
        for (int bits = 0; bits < 32; bits++) {
            int a = bits & 1;
            int b = bits >> 1 & 1;
            int c = bits >> 2 & 1;
            int first = (bits & 8) == 0 ? a & b : a | b;
            int want = (bits & 16) == 0 ? first & c : first | c;
            owes(due, a * 7 + ((bits & 8) == 0 ? " and " : " or ") + b * 9 + ((bits & 16) == 0 ? " and " : " or ") + c * 3, want);
        }
        owes(due, "1 or ( 1 and 0 )", 1);
        owes(due, "1 or 1 and 0", 0);
    }

    private static void ones(Due due) {
        due.of("Of not, and, or, < and = comes 1 or 0; what is not 0 is so");
        String[] so = {"1", "2", "9999", "( 0 - 1 )", "( 0 - 9999 )"};
        for (String e : so) {
            owes(due, "not " + e, 0);
            owes(due, "not not " + e, 1);
            owes(due, e + " and " + e, 1);
            owes(due, e + " and 0", 0);
            owes(due, "0 and " + e, 0);
            owes(due, "0 or " + e, 1);
            owes(due, e + " or 0", 1);
            owes(due, e + " or " + e, 1);
        }
        owes(due, "not 0", 1);
        owes(due, "0 or 0", 0);
        owes(due, "not 0 + not 0", 2);
        owes(due, "not 1 - 1", 0);
        owes(due, "not ( 1 - 1 )", 1);
        owes(due, "( 5 and 7 ) * 10 + ( 2 < 3 ) + ( 2 = 2 )", 12);
    }

    private static void wraps(Due due) {
        due.of("ints wrap");
        String most = "( 8192 * 8192 * 16 - 1 + 8192 * 8192 * 16 )";
        owes(due, most + " < 0", 0);
        owes(due, most + " + 1 < 0", 1);
        owes(due, "0 < 0 - " + most + " - 1", 0);
        owes(due, "0 < 0 - " + most + " - 2", 1);
        owes(due, "0 - " + most + " - 2 = " + most, 1);
        owes(due, "8192 * 8192 * 64", 0);
        owes(due, "not ( 8192 * 8192 * 64 )", 1);
        owes(due, "8192 * 8192 * 64 and 1", 0);
        owes(due, most + " * 2 + 12", 10);
        due.of("pays the E of due (0 to 9999)");
        owes(due, most, 9999);
        owes(due, most + " + 1", 0);
    }

    /** A PART in brackets and behind not as told by bits. */
    private static String wrapped(String part, int bits, int many) {
        String text = part;
        for (int i = 0; i < many; i++) {
            text = (bits >> i & 1) == 0 ? "( " + text + " )" : "not " + text;
        }
        return text;
    }

    private static void nested(Due due) {
        due.of("no PART lies within 5 of not and ( )");
        PulseRent[] x = {new PulseRent(), new PulseRent()};
        for (int bits = 0; bits < 16; bits++) {
            for (int many = 0; many <= 4; many++) {
                due.is("within " + many + ": " + wrapped("7", bits, many), Due.house(x[bits % 2], "due " + wrapped("7", bits,
                        many) + " ;"), 0);
            }
            String four = wrapped("7", bits, 4);
            due.is("one behind the other", Due.house(x[bits % 2], "wish " + four + " * " + four + " + " + four + " ;"), 0);
        }
        owes(due, "not ( not ( 7 + 1 ) ) * 9", 9);
        owes(due, "( ( ( ( 7 ) + 1 ) * 2 ) - 3 )", 13);
        owes(due, "not not not not 7", 1);
        owes(due, "not not not 7 + not not not not 0", 0);
    }

    private static void oneTooDeep(Due due) {
        due.of("not, or a PART, within 5 others");
        String[] parts = {"7", "beats", "not 7", "( 7 )", "( (", "not not"};
        for (String part : parts) {
            PulseRent x = new PulseRent();
            for (int bits = 0; bits < 32; bits++) {
                due.faultyHouse(x, 5, "due " + wrapped("^" + part, bits, 5) + " ;");
            }
        }
        PulseRent x = new PulseRent();
        due.faultyHouse(x, 5, "due ( ( ( ( ( ^7 ;");
        due.faultyHouse(x, 5, "due ( ( ( ( 1 + ( ^7 ;");
        due.faultyHouse(x, 5, "due ( ( ( ( 1 * not ^7 ;");
        due.faultyHouse(x, 5, "wish 1 + ( 2 + ( 3 + ( 4 + ( 5 + ( ^6 ) ) ) ) ) ;");
        due.is("one less", Due.house(x, "wish 1 + ( 2 + ( 3 + ( 4 + ( 5 + 6 ) ) ) ) ;"), 0);
        due.is("those that are closed lie around nothing", Due.house(x, "due ( ( ( ( 1 ) ) ) ) and not not not not 1"
                + " or ( not ( not 1 ) ) = not ( ( ( 2 ) ) ) ;"), 0);
    }

    private static void facts(Due due) {
        due.of("Facts: of due beats (counted since the last noon), floor (his ROOM's base), kind (0 plain, 1 monk, 2 runner,"
                + " 3 sick); of wish steps (the ROOM's stairs), loud (its noise), floor (its base), kind");
        PulseRent x = new PulseRent();
        String[] facts = {"beats", "floor", "kind", "steps", "loud"};
        for (int i = 0; i < facts.length; i++) {
            due.is("due " + facts[i], Due.house(x, "due " + facts[i] + " ;"), i <= 2 ? 0 : 1 + 16 * 4);
            due.is("wish " + facts[i], Due.house(x, "wish " + facts[i] + " ;"), i > 0 ? 0 : 1 + 16 * 5);
        }
        due.faultyHouse(x, 1, "room ra stairs 0 noise 0 base 0 ; due ^ra ;");
        due.faultyHouse(x, 1, "due ^coins ;");
        due.faultyHouse(x, 1, "due ^room ;");
        for (int kind = 0; kind < 4; kind++) {
            PulseRent y = Due.housed("room aa stairs 3 noise 5 base 0 ; room r stairs 11 noise 4 base 999 ; tenant t "
                    + KINDS[kind] + " rest 40 calm 0 coins 9999 in r ; due beats * 10 + floor + kind ; every 2 ; ");
            int beats = kind == 3 ? 2 * 64 : 2 * 44;
            due.is("nothing is counted", y.owed(0), 999 + kind);
            y.minutes(2);
            due.is("beats", y.owed(0), 10 * beats + 999 + kind);
            y.noon();
            due.is("since the last noon", y.owed(0), 999 + kind);
            y.move(0, 0);
            due.is("his ROOM's base", y.owed(0), kind);
            // each fact of wish alone decides for the second ROOM
            String two = "room aa stairs 3 noise 5 base 9 ; room bb stairs %s ; tenant t " + KINDS[kind]
                    + " rest 40 calm 0 coins 0 ; wish %s ; ";
            due.is("steps", Due.housed(String.format(two, "4 noise 5 base 9", "steps")).match(0), 1);
            due.is("loud", Due.housed(String.format(two, "3 noise 6 base 9", "loud")).match(0), 1);
            due.is("floor", Due.housed(String.format(two, "3 noise 5 base 10", "floor")).match(0), 1);
            due.is("kind", Due.housed(String.format(two, "4 noise 5 base 9", "steps * ( kind = " + kind + " )")).match(0), 1);
            due.is("kind", Due.housed(String.format(two, "4 noise 5 base 9", "steps * ( kind < " + kind + " )")).match(0), 0);
        }
    }

    private static void dueBounds(Due due) {
        due.of("pays the E of due (0 to 9999)");
        owes(due, "0 - 1", 0);
        owes(due, "0", 0);
        owes(due, "1", 1);
        owes(due, "9998", 9998);
        owes(due, "9999", 9999);
        owes(due, "9999 + 1", 9999);
        owes(due, "0 - 9999 * 9999", 0);
        owes(due, "9999 * 9999", 9999);
    }

    private static void withoutDue(Due due) {
        due.of("Without due: beats + floor");
        PulseRent x = Due.housed("room r stairs 11 noise 5 base 999 ; tenant t sick rest 99 calm 0 coins 0 in r ; every 30 ; ");
        due.is("floor", x.owed(0), 999);
        x.minutes(1);
        due.is("beats and floor", x.owed(0), 30 * 124 + 999);
        x.minutes(60);
        due.is("9999 at most", x.owed(0), 9999);
    }

    private static void wish(Due due, String kind, String second, boolean rather) {
        PulseRent x = Due.housed("room aa stairs 30 noise 10 base 500 ; room bb " + second + " ; tenant t " + kind
                + " rest 40 calm 0 coins 0 ; ");
        due.is(kind + ": " + second, x.match(0), rather ? 1 : 0);
    }

    private static void withoutWish(Due due) {
        due.of("without wish: 0 - loud * 3 - steps - floor, of a runner 0 - loud * 3 - floor");
        for (String kind : KINDS) {
            boolean runner = kind.equals("runner");
            wish(due, kind, "stairs 29 noise 10 base 500", !runner);
            wish(due, kind, "stairs 30 noise 10 base 499", true);
            wish(due, kind, "stairs 30 noise 9 base 502", true);
            wish(due, kind, "stairs 30 noise 9 base 503", false);
            wish(due, kind, "stairs 33 noise 9 base 500", runner);
            wish(due, kind, "stairs 32 noise 9 base 500", true);
            wish(due, kind, "stairs 29 noise 10 base 501", false);
            wish(due, kind, "stairs 28 noise 10 base 501", !runner);
            wish(due, kind, "stairs 60 noise 10 base 499", runner);
            wish(due, kind, "stairs 30 noise 10 base 500", false);
        }
    }

    private static void longest(Due due) {
        due.of("The TAPE has at most 1,000 signs");
        PulseRent x = new PulseRent();
        Due.feed(x, "room r stairs 0noise 0base 7;tenant t monk rest 40calm 0coins 0in r;due ");
        StringBuilder e = new StringBuilder("1");
        int value = 1;
        while (x.count(12) + e.length() + 3 <= 1000) {
            e.append("+1");
            value++;
        }
        Due.feed(x, e + ";");
        due.is("an E up to the end", x.count(12) >= 999 ? x.house() : -1, 0);
        due.is("its value", x.owed(0), value);
        PulseRent y = new PulseRent();
        Due.feed(y, "room r stairs 0noise 0base 7;tenant t monk rest 40calm 0coins 0in r;due ");
        Due.feed(y, "not ".repeat(4) + "1-1" + "*1".repeat(440) + ";");
        due.is("many a *", y.house(), 0);
        due.is("0", y.owed(0), 0);
    }

    /** Makes an E together with its value. */
    private static final class Maker {
        private final Random random;
        private final StringBuilder text = new StringBuilder();
        private int[] facts = new int[4];
        private String[] names = new String[4];

        Maker(Random random) {
            this.random = random;
        }

        void compare(Due due) {
            due.of("E: TEST { and TEST or or TEST }, from the left; TEST: SUM, or SUM < SUM, or SUM = SUM; SUM: PRODUCT { + or -"
                    + " PRODUCT }; PRODUCT: PART { * PART }; PART: a NUMBER, a fact, not PART, ( E )");
            for (int i = 0; i < 3000; i++) {
                compareDue(due);
                compareWish(due);
            }
        }

        private void compareDue(Due due) {
            int kind = random.nextInt(4);
            int base = random.nextInt(1000);
            names = new String[] {"beats", "floor", "kind", "kind"};
            facts = new int[] {kind == 3 ? 65 : 45, base, kind, kind};
            int value = make(0, 4);
            String house = "room r stairs 1 noise 5 base " + base + " ; tenant t " + KINDS[kind]
                    + " rest 40 calm 0 coins 0 in r ; due ";
            owed(due, house + text, Math.max(0, Math.min(9999, value)));
            int again = make(1, 4);
            String e = "( " + text + " ) = " + written(again);
            owed(due, house + e, 1);
        }

        private void owed(Due due, String told, int want) {
            if (told.length() <= 990) {
                PulseRent x = Due.housed(told + " ;");
                x.minutes(1);
                due.is("owed(0) by " + told, x.owed(0), want);
            }
        }

        private void compareWish(Due due) {
            int kind = random.nextInt(4);
            names = new String[] {"steps", "loud", "floor", "kind"};
            facts = new int[] {random.nextInt(61), random.nextInt(21), 1 + random.nextInt(999), kind};
            int value = make(2, 3);
            // only the second ROOM has this base, and its E is 1 if the value is as due
            String told = "room aa stairs 0 noise 0 base 0 ; room bb stairs " + facts[0] + " noise " + facts[1] + " base "
                    + facts[2] + " ; tenant t " + KINDS[kind] + " rest 40 calm 0 coins 0 ; wish ( floor = " + facts[2]
                    + " ) * ( ( " + text + " ) = " + written(value) + " ) ;";
            if (told.length() <= 1000) {
                due.is("match(0) by " + told, Due.housed(told).match(0), 1);
            }
        }

        /** Any int as an E of NUMBERS. */
        private static String written(int value) {
            long size = Math.abs((long) value);
            String e = "( " + size / 25000000 + " * 5000 + " + size / 5000 % 5000 + " ) * 5000 + " + size % 5000;
            return value < 0 ? "0 - ( " + e + " )" : "0 + ( " + e + " )";
        }

        private int make(int around, int rough) {
            text.setLength(0);
            return e(around, rough);
        }

        private int e(int around, int rough) {
            int value = test(around, rough);
            while (random.nextInt(4) == 0) {
                boolean and = random.nextBoolean();
                text.append(and ? " and " : " or ");
                int right = test(around, rough);
                value = (and ? value != 0 && right != 0 : value != 0 || right != 0) ? 1 : 0;
            }
            return value;
        }

        private int test(int around, int rough) {
            int value = sum(around, rough);
            if (random.nextInt(4) == 0) {
                boolean less = random.nextBoolean();
                text.append(less ? " < " : " = ");
                int right = sum(around, rough);
                value = (less ? value < right : value == right) ? 1 : 0;
            }
            return value;
        }

        private int sum(int around, int rough) {
            int value = product(around, rough);
            while (random.nextInt(3) == 0) {
                boolean plus = random.nextBoolean();
                text.append(plus ? " + " : " - ");
                int right = product(around, rough);
                value = plus ? value + right : value - right;
            }
            return value;
        }

        private int product(int around, int rough) {
            int value = part(around, rough);
            while (random.nextInt(rough) == 0) {
                text.append(" * ");
                value *= part(around, rough);
            }
            return value;
        }

        private int part(int around, int rough) {
            int which = random.nextInt(around < 4 ? 8 : 5);
            if (which >= 6) {
                text.append("( ");
                int value = e(around + 1, rough);
                text.append(" )");
                return value;
            }
            if (which == 5) {
                text.append("not ");
                return part(around + 1, rough) == 0 ? 1 : 0;
            }
            if (which >= 3) {
                int fact = random.nextInt(4);
                text.append(names[fact]);
                return facts[fact];
            }
            int number = random.nextInt(3) == 0 ? random.nextInt(10000) : random.nextInt(4);
            text.append(number);
            return number;
        }
    }
}
