/** E, of due and of wish, as promises 3, 16 and 20 use it. */
public final class FormulaTest {
    private static final String ONE = "room r stairs 11 noise 5 base 7 ; "
            + "tenant t sick rest 40 calm 0 coins 0 in r ; ";

    public static void main(String[] args) {
        Due due = new Due("FormulaTest");
        values(due);
        facts(due);
        deepest(due);
        faults(due);
        depths(due);
        untold(due);
        due.end();
    }

    private static void owes(Due due, String e, long want) {
        PulseRent x = Due.housed(ONE + "due " + e + " ;");
        due.is("owed(0) by " + e, x.owed(0), want);
    }

    private static void values(Due due) {
        owes(due, "2 + 3 * 4", 14);
        owes(due, "2 * 3 + 4", 10);
        owes(due, "9 - 3 - 2", 4);
        owes(due, "( 2 + 3 ) * 4", 20);
        owes(due, "9 - ( 3 - 2 )", 8);
        owes(due, "1 < 2", 1);
        owes(due, "2 < 2", 0);
        owes(due, "2 = 2", 1);
        owes(due, "2 = 3", 0);
        owes(due, "1 + 1 = 2", 1);
        owes(due, "3 < 1 + 3", 1);
        owes(due, "( 1 < 2 ) + 3", 4);
        owes(due, "0 - 5 < 0 - 4", 1);
        owes(due, "5 and 7", 1);
        owes(due, "5 and 0", 0);
        owes(due, "0 or 0 - 3", 1);
        owes(due, "0 or 0", 0);
        // from the left, none of the two ahead of the other
        owes(due, "1 or 1 and 0", 0);
        owes(due, "0 and 0 or 1", 1);
        owes(due, "1 or ( 1 and 0 )", 1);
        owes(due, "1 < 2 and 2 < 3", 1);
        owes(due, "not 0", 1);
        owes(due, "not 7", 0);
        owes(due, "not not 7", 1);
        owes(due, "not 0 * 5", 5);
        owes(due, "not ( 1 < 2 ) + 9", 9);
        owes(due, "0 - 1", 0);
        owes(due, "9999", 9999);
        owes(due, "9999 + 1", 9999);
        int big = 9999 * 9999 * 9999;
        owes(due, "9999 * 9999 * 9999 < 0", big < 0 ? 1 : 0);
        owes(due, "9999 * 9999 * 9999 - " + 9999 + " * 9999 * 9999", 0);
        owes(due, "5000 * 5000 * 100 < 0", 5000 * 5000 * 100 < 0 ? 1 : 0);
        owes(due, "8192 * 8192 * 64 + 5", 5);
    }

    private static void facts(Due due) {
        owes(due, "beats", 0);
        owes(due, "floor", 7);
        owes(due, "kind", 3);
        PulseRent x = Due.housed(ONE + "every 2 ; due beats * 10 + floor * 2 + kind ;");
        x.minutes(1);
        due.is("beats since the last noon", x.owed(0), 65 * 2 * 10 + 14 + 3);
        String[] kinds = {"plain", "monk", "runner", "sick"};
        for (int kind = 0; kind < kinds.length; kind++) {
            PulseRent y = Due.housed("room r stairs 0 noise 0 base 0 ; tenant t " + kinds[kind]
                    + " rest 40 calm 0 coins 0 in r ; due kind + 5 ;");
            due.is("kind of " + kinds[kind], y.owed(0), kind + 5);
        }
    }

    private static void deepest(Due due) {
        // as many values as can be wait for the last 2
        String e = "0 or 1 < 0 + 2 * 2";
        for (int i = 0; i < 4; i++) {
            e = "0 or 1 < 0 + 2 * ( " + e + " )";
        }
        owes(due, e, 1);
        owes(due, e.replace("2 * 2", "0 * 2"), 0);
        owes(due, e.replace("2 * 2", "2 * beats"), 0);
        owes(due, "1 + 2 * ( 3 + 4 * ( 5 + 6 * ( 7 + 8 * ( 9 ) ) ) )", 1 + 2 * (3 + 4 * (5 + 6 * (7 + 8 * 9))));
        StringBuilder longest = new StringBuilder("1");
        for (int i = 0; i < 400; i++) {
            longest.append("+1");
        }
        owes(due, longest.toString(), 401);
    }

    private static void faults(Due due) {
        PulseRent x = new PulseRent();
        due.faultyHouse(x, 1, "due ^;");
        due.faultyHouse(x, 1, "due ^loud ;");
        due.faultyHouse(x, 1, "due ^steps ;");
        due.faultyHouse(x, 1, "wish ^beats ;");
        due.faultyHouse(x, 1, "due ^foo ;");
        due.faultyHouse(x, 1, "due ^- 1 ;");
        due.faultyHouse(x, 1, "due 1 ^2 ;");
        due.faultyHouse(x, 1, "due 1 + ^;");
        due.faultyHouse(x, 1, "due 1 + ^* 2 ;");
        due.faultyHouse(x, 1, "due 1 < 2 ^< 3 ;");
        due.faultyHouse(x, 1, "due 1 = 2 ^< 3 ;");
        due.faultyHouse(x, 1, "due ( 1 ^;");
        due.faultyHouse(x, 1, "due 1 ^) ;");
        due.faultyHouse(x, 1, "due ( ^) ;");
        due.faultyHouse(x, 1, "due 1 ^not 2 ;");
        due.faultyHouse(x, 1, "due not ^;");
        due.faultyHouse(x, 1, "due 1 and ^or 2 ;");
        due.faultyHouse(x, 1, "due ^and 1 ;");
        due.faultyHouse(x, 1, "due ^12345 ;");
        due.faultyHouse(x, 1, "due beats^");
        due.faultyHouse(x, 1, "due 1 ^> 2 ;");
        due.is("facts of wish", Due.house(x, "wish steps + loud + floor + kind ;"), 0);
        due.is("facts of due", Due.house(x, "due beats + floor + kind ;"), 0);
    }

    private static void depths(Due due) {
        PulseRent x = new PulseRent();
        due.is("within 4 ( )", Due.house(x, "due ( ( ( ( 1 ) ) ) ) ;"), 0);
        due.is("within 4 not", Due.house(x, "due not not not not 1 ;"), 0);
        due.is("within 4 of both", Due.house(x, "wish ( not ( not steps ) ) ;"), 0);
        due.is("side by side", Due.house(x, "due ( ( ( ( 1 ) ) ) ) + ( ( ( ( 1 ) ) ) ) ;"), 0);
        due.faultyHouse(x, 5, "due ( ( ( ( ( ^1 ) ) ) ) ) ;");
        due.faultyHouse(x, 5, "due ( ( ( ( ( ^( 1 ;");
        due.faultyHouse(x, 5, "due ( ( ( ( ( ^not 1 ;");
        due.faultyHouse(x, 5, "due ( ( ( ( ( ^beats ;");
        due.faultyHouse(x, 5, "due not not not not not ^1 ;");
        due.faultyHouse(x, 5, "due not not not not not ^not 1 ;");
        due.faultyHouse(x, 5, "due ( not ( not ( ^1 ) ) ) ;");
        due.faultyHouse(x, 1, "due ( ( ( ( ( ^loud ;");
        due.faultyHouse(x, 1, "due ( ( ( ( ( ^) ;");
        due.faultyHouse(x, 1, "due not not not not not ^; ");
    }

    private static void untold(Due due) {
        PulseRent x = Due.housed(ONE);
        due.is("without due: floor", x.owed(0), 7);
        x.minutes(2);
        due.is("without due: beats + floor", x.owed(0), 2 * 65 + 7);
    }
}
