/** The boundary cases of promises 1 and 2, of the TAPE and of the TOKENS on it, a sentence each. */
public final class TapeEdgesTest {
    private static final int NONE = PulseRent.NONE;
    private static final String LETTERS = "abcdefghijklmnopqrstuvwxyz";
    private static final String DIGITS = "0123456789";
    private static final String SIGNS = "()<=+-*;";

    public static void main(String[] args) {
        Due due = new Due("TapeEdgesTest");
        nothingAtFirst(due);
        calls(due);
        everyByte(due);
        everyPlace(due);
        behindTheTape(due);
        full(due);
        taken(due);
        asLongAsCanBe(due);
        blanks(due);
        words(due);
        numbers(due);
        signs(due);
        theEnd(due);
        due.end();
    }

    private static void nothingAtFirst(Due due) {
        due.of("`PulseRent()`: Nothing.");
        PulseRent x = new PulseRent();
        due.same("a new one", Due.look(x), "counts 0 0 0 0 0 0 0 20 1 0 0 0 0");
        due.is("room(0, 3)", x.room(0, 3), NONE);
        due.is("tenant(0, 4)", x.tenant(0, 4), NONE);
        due.is("undo()", x.undo(), false);
        for (int mark = 0; mark < 4; mark++) {
            due.is("mark(" + mark + ", true)", x.mark(mark, true), false);
        }
        PulseRent other = new PulseRent();
        Due.house(other, "every 7 ;");
        other.minutes(3);
        due.same("what another has is not its own", Due.look(x), "counts 0 0 0 0 0 0 0 20 1 0 0 0 0");
    }

    private static void calls(Due due) {
        due.of("An object is used for at most 512 calls after it has been made");
        PulseRent x = new PulseRent();
        int made = 0;
        String house = "room r stairs 60 noise 20 base 999 ; tenant t sick rest 99 calm 0 coins 9999 in r ; every 30 ;";
        Due.feed(x, house);
        made += (house.length() + 23) / 24;
        due.is("house()", x.house(), 0);
        made++;
        for (; made < 511; made++) {
            x.minutes(120);
        }
        int minutes = (511 - (house.length() + 23) / 24 - 1) * 120;
        due.is("the 512th call", x.tenant(0, 8), minutes * 139);

        PulseRent y = Due.housed("room r stairs 60 noise 20 base 0 ; tenant t plain rest 40 calm 0 coins 0 in r ;");
        for (int i = 1; i <= 500; i++) {
            due.is("climb, the " + i + ".", y.climb(0), 60 * i);
        }
        due.is("pulse(0)", y.pulse(0), 240);
        PulseRent z = Due.housed("room r stairs 0 noise 0 base 0 ; tenant t plain rest 40 calm 0 coins 0 in r ;");
        int stirred = 0;
        for (int i = 1; i <= 500; i++) {
            stirred += 99 / i;
            due.is("fright, the " + i + ".", z.fright(0, 99), stirred);
        }
    }

    private static boolean isSign(int b) {
        return b == 10 || (b >= 32 && b <= 126);
    }

    private static void everyByte(Due due) {
        due.of("others than 10 and 32 .. 126, and what is beyond 1,000, are left out");
        PulseRent x = new PulseRent();
        int size = 0;
        for (int b = 0; b < 256; b++) {
            size += isSign(b) ? 1 : 0;
            due.is("feed of the byte " + b, x.feed(0, b, 0), size);
        }
        due.is("96 of 256", x.count(12), 96);
        due.is("all bits", x.feed(-1, Long.MIN_VALUE, Long.MAX_VALUE), 96);
        int[] outside = {0, 9, 11, 31, 127, 128, 138, 160, 255};
        for (int b : outside) {
            PulseRent y = new PulseRent();
            // a byte that is left out parts nothing: the WORD and the NUMBER go on behind it
            String text = "ev" + (char) b + "ery 1" + (char) b + "2" + (char) b + ";";
            Due.feed(y, text);
            due.is("signs without " + b, y.count(12), 9);
            due.is("house()", y.house(), 0);
            due.is("every 12", y.count(8), 12);
        }
    }

    private static void everyPlace(Due due) {
        due.of("the bytes of a, b, c, of each the highest first");
        PulseRent x = new PulseRent();
        for (int place = 0; place < 24; place++) {
            long sign = 0x20L << 56 - 8 * (place % 8);
            int size = x.feed(place < 8 ? sign : 0, place / 8 == 1 ? sign : 0, place >= 16 ? sign : 0);
            due.is("a sign at the place " + place, size, place + 1);
        }
        for (int at = 0; at < 24; at++) {
            // the wrong sign's place tells in which order the bytes came
            String text = " ".repeat(at) + "!" + " ".repeat(23 - at);
            PulseRent y = new PulseRent();
            Due.feed(y, text);
            due.is("24 signs", y.count(12), 24);
            due.is("! at " + at, y.house(), 1 + 16 * at);
        }
        due.of("Up to 24 signs come behind the TAPE");
        PulseRent z = new PulseRent();
        due.is("none", z.feed(0, 0, 0), 0);
        due.is("one", z.feed(0, 0, 'e'), 1);
        due.is("24", z.feed(0x2020202020202020L, 0x2020202020202020L, 0x2020202020202020L), 25);
    }

    private static void behindTheTape(Due due) {
        due.of("come behind the TAPE");
        PulseRent x = new PulseRent();
        String text = "every 12;";
        for (int i = 0; i < text.length(); i++) {
            due.is("a sign a call", x.feed(0, text.charAt(i), 0), i + 1);
        }
        due.is("house()", x.house(), 0);
        due.is("every", x.count(8), 12);
    }

    private static PulseRent withSigns(int many) {
        PulseRent x = new PulseRent();
        Due.feed(x, " ".repeat(many));
        return x;
    }

    private static void full(Due due) {
        due.of("The TAPE has at most 1,000 signs");
        due.is("999", withSigns(999).count(12), 1000 - 1);
        due.is("999 and one", withSigns(999).feed(0, 0, ' '), 1000);
        due.is("999 and two", withSigns(999).feed(0, ' ', ' '), 1000);
        due.is("1,000", withSigns(1000).count(12), 1000);
        due.is("1,000 and one", withSigns(1000).feed(' ', 0, 0), 1000);
        due.is("1,001 at once", withSigns(1001).count(12), 1000);
        due.is("1,100", withSigns(1100).count(12), 1000);
        PulseRent last = withSigns(991);
        Due.feed(last, "every 12;");
        due.is("1,000", last.count(12), 1000);
        due.is("the 1,000th is read", last.house(), 0);
        due.is("every", last.count(8), 12);
        PulseRent beyond = withSigns(992);
        Due.feed(beyond, "every 12;");
        due.is("1,000", beyond.count(12), 1000);
        due.is("the 1,001st is left out", beyond.house(), 1 + 16 * 1000);
        PulseRent months = withSigns(995);
        Due.feed(months, "noon;");
        due.is("MONTHS of 1,000", months.months(), 0);
        due.is("a line", months.count(9), 1);
        due.is("nothing else is full", months.feed(0, 0, ' '), 1);
    }

    private static void taken(Due due) {
        due.of("what reads it takes it: it is empty then");
        PulseRent x = new PulseRent();
        due.is("house()", Due.house(x, "every 7 ; "), 0);
        due.is("empty", x.count(12), 0);
        due.is("house() of nothing", x.house(), 0);
        due.is("every untold", x.count(8), 1);
        due.is("with a FAULT", Due.house(x, "every 8 ; ! every 9 ;"), 1 + 16 * 10);
        due.is("empty", x.count(12), 0);
        due.is("months() of nothing", x.months(), 0);
        due.is("months()", Due.months(x, "noon ; noon ;"), 0);
        due.is("empty", x.count(12), 0);
        due.is("two lines", x.count(9), 2);
        due.is("with a FAULT", Due.months(x, "noon ; ! noon ;"), 1 + 16 * 7);
        due.is("empty", x.count(12), 0);
        due.is("feed begins anew", x.feed(0, 0, ' '), 1);
        due.is("only feed, house and months have to do with it", x.minutes(1) + x.noon() + x.count(12), 2);
    }

    private static void asLongAsCanBe(Due due) {
        due.of("TOKENS, each as long as can be");
        PulseRent x = new PulseRent();
        due.faultyHouse(x, 1, "^everyone 1 ;");
        due.faultyHouse(x, 1, "^everyevery 1 ;");
        due.faultyHouse(x, 1, "every ^00012 ;");
        due.faultyHouse(x, 1, "due 1 ^andor 1 ;");
        due.faultyHouse(x, 1, "due ^notnot 1 ;");
        due.is("into is a NAME", Due.house(x, "room into stairs 1 noise 1 base 1 ;"), 0);
    }

    private static void blanks(Due due) {
        due.of("blanks (10, 32) between where one likes");
        PulseRent x = new PulseRent();
        due.is("few", Due.house(x, "room a stairs1noise2base3;tenant b sick rest41calm5coins6in a;every7;"
                + "due(1)<2*(3+kind)-not 0;wish not(1)=0;"), 0);
        due.is("room(0, 2)", x.room(0, 2), 3);
        due.is("tenant(0, 4)", x.tenant(0, 4), 0);
        due.is("every", x.count(8), 7);
        due.is("many", Due.house(x, "\n \n every \n\n  \n 9 \n ; \n\n due \n ( \n 1 \n ) \n ; \n "), 0);
        due.is("every", x.count(8), 9);
        due.is("nothing but blanks", Due.house(x, " \n  \n"), 0);
        due.faultyHouse(x, 1, "^eve ry 1 ;");
        due.faultyHouse(x, 1, "^eve\nry 1 ;");
        due.faultyHouse(x, 1, "every 1 ^2 ;");
        due.faultyHouse(x, 1, "every 1\n^2 ;");
        due.is("MONTHS too", Due.months(x, "minutes9;noon;\n\nnoon\n;"), 0);
        due.is("lines", x.count(9), 3);
    }

    private static String errand(String name) {
        return "errand " + name + " opens 0 takes 1 adds 0 ; ";
    }

    private static void words(Due due) {
        due.of("WORDS (letters a .. z, 8 at most)");
        PulseRent x = new PulseRent();
        for (int length = 1; length <= 8; length++) {
            due.is("a WORD of " + length, Due.house(x, errand("z".repeat(length))), 0);
        }
        due.faultyHouse(x, 1, "errand ^" + "z".repeat(9) + " opens");
        due.faultyHouse(x, 1, "errand ^" + "a".repeat(100) + " opens");
        due.faultyHouse(x, 1, "errand ^" + "minutess".repeat(2) + " opens");
        for (char c = 'a'; c <= 'z'; c++) {
            due.is("a letter: " + c, Due.house(x, errand("q" + c)), 0);
        }
        due.is("all of 8 is looked at", Due.house(x, errand("abcdefgh") + errand("abcdefgi") + errand("bbcdefgh")
                + errand("abcdefg") + errand("a") + errand("aa")), 0);
        char[] outside = {'`', '{', '@', '[', 'A', 'Z', '_', '.'};
        for (char c : outside) {
            due.faultyHouse(x, 1, "errand ^" + c + " opens");
            due.faultyHouse(x, 1, "errand a^" + c + " opens");
        }
        due.faultyHouse(x, 1, "errand a^7 opens");
    }

    private static void numbers(Due due) {
        due.of("NUMBERS (1 to 4 digits; a letter may stand right behind)");
        PulseRent x = new PulseRent();
        String[] sevens = {"7", "07", "007", "0007"};
        for (String seven : sevens) {
            due.is("every " + seven, Due.house(x, "every " + seven + " ;"), 0);
            due.is("7", x.count(8), 7);
        }
        due.faultyHouse(x, 1, "every ^00007 ;");
        due.faultyHouse(x, 1, "every ^" + "0".repeat(50) + " ;");
        due.faultyHouse(x, 1, "every ^" + "4294967297".repeat(2) + " ;");
        for (char c = '0'; c <= '9'; c++) {
            due.is("a digit: " + c, Due.house(x, "room r stairs 0 noise 0 base " + c + c + c + " ;"), 0);
            due.is("its value", x.room(0, 2), 111 * (c - '0'));
        }
        due.is("9999", Due.house(x, "tenant t plain rest 40 calm 0 coins 9999 ;"), 0);
        due.is("coins", x.tenant(0, 3), 9999);
        due.faultyHouse(x, 1, "tenant t plain rest 40 calm 0 coins ^10000 ;");
        due.faultyHouse(x, 1, "every ^/ ;");
        due.faultyHouse(x, 1, "every ^: ;");
        due.faultyHouse(x, 1, "every 1^/ ;");
        due.faultyHouse(x, 1, "every 1^: ;");
        for (char c = 'a'; c <= 'z'; c++) {
            due.faultyHouse(x, 1, "every 1^" + c + " ;");
        }
        due.is("a letter right behind", Due.house(x, "coffee 60lasts 120;"), 0);
        due.is("coffee", x.count(7), 60);
    }

    private static void signs(Due due) {
        due.of("the signs ( ) < = + - * ; All else (a longer WORD or NUMBER, too, at its first sign) is none");
        PulseRent x = new PulseRent();
        for (char c = 33; c <= 126; c++) {
            boolean letter = LETTERS.indexOf(c) >= 0;
            boolean joins = "<=+-*".indexOf(c) >= 0;
            if (!letter && DIGITS.indexOf(c) < 0) {
                // what joins may stand behind 1, and the end is wrong then; all else is wrong itself, but ;
                int itself = 1 + 16 * 6;
                int next = 1 + 16 * 8;
                due.is("due 1 " + c, Due.house(x, "due 1 " + c), c == ';' ? 0 : joins ? 1 + 16 * 7 : itself);
                due.is("due 1 " + c + " 1 ;", Due.house(x, "due 1 " + c + " 1 ;"), c == ';' ? next : joins ? 0 : itself);
                due.is("alone: " + c, Due.house(x, " " + c), 1 + 16);
            }
        }
        due.is("( )", Due.house(x, "due(1);"), 0);
        due.is("8 signs", SIGNS.length(), 8);
    }

    private static void theEnd(Due due) {
        due.of("the end being one at the text's length");
        PulseRent x = new PulseRent();
        due.faultyHouse(x, 1, "every^");
        due.faultyHouse(x, 1, "every \n  ^");
        due.faultyHouse(x, 1, "\n\nevery 1 ; due^");
        due.faultyMonths(x, 1, "noon^");
        due.faultyMonths(x, 1, "noon ; minutes   ^");
        due.is("the place is counted from 0", Due.house(x, "!"), 1);
        due.is("blanks ahead are counted", Due.house(x, "\n !"), 1 + 16 * 2);
    }
}
