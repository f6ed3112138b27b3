/** Promises 4 and 15: months and judged. */
public final class MonthsTest {
    private static final String HOUSE = "room attic stairs 40 noise 0 base 11 ; room hall stairs 10 noise 0 base 0 ; "
            + "tenant ann plain rest 60 calm 10 coins 200 in attic ; tenant bob monk rest 50 calm 0 coins 999 ; "
            + "errand shop opens 0 takes 1 adds 0 ; ";

    public static void main(String[] args) {
        Due due = new Due("MonthsTest");
        reading(due);
        faults(due);
        judging(due);
        fromTheBegin(due);
        due.end();
    }

    private static void reading(Due due) {
        PulseRent x = Due.housed(HOUSE);
        due.is("all kinds of lines", Due.months(x, "climb ann ; fright ann 99 ; drink bob ; minutes 120 ; noon ;"
                + " move bob hall ; fright bob 1 ; minutes 1 ;"), 0);
        due.is("count(9)", x.count(9), 8);
        due.is("nothing is done", x.count(3), 0);
        due.is("nothing to undo", x.count(11), 0);
        due.is("30 lines", Due.months(x, "noon;".repeat(30)), 0);
        due.is("count(9)", x.count(9), 30);
        due.faultyMonths(x, 5, "noon;".repeat(30) + "^noon");
        due.faultyMonths(x, 5, "noon;".repeat(30) + "^climb zz");
        due.faultyMonths(x, 1, "noon;".repeat(30) + "^room");
        due.is("they stay with a FAULT", x.count(9), 30);
        due.is("2 lines", Due.months(x, "climb bob ; noon ;"), 0);
        due.faultyMonths(x, 1, "noon ; noon ; noon ; ^!");
        due.is("count(9)", x.count(9), 2);
        due.is("line 0 can't be", x.judged(0), 0);
        due.is("none is MONTHS", Due.months(x, ""), 0);
        due.is("count(9)", x.count(9), 0);
    }

    private static void faults(Due due) {
        PulseRent x = Due.housed(HOUSE);
        due.faultyMonths(x, 1, "^room a");
        due.faultyMonths(x, 1, "^ann climb ;");
        due.faultyMonths(x, 1, "climb ^noon ;");
        due.faultyMonths(x, 1, "climb ^7 ;");
        due.faultyMonths(x, 1, "climb ann ^bob ;");
        due.faultyMonths(x, 1, "climb ann^");
        due.faultyMonths(x, 1, "fright ann ^;");
        due.faultyMonths(x, 1, "fright ^9 ann ;");
        due.faultyMonths(x, 1, "minutes ^ann ;");
        due.faultyMonths(x, 1, "noon ^noon ;");
        due.faultyMonths(x, 1, "move ann ^; ");
        due.faultyMonths(x, 1, "move ann ^move ;");
        due.faultyMonths(x, 1, "noon ; ^;");
        due.faultyMonths(x, 2, "climb ^zed ;");
        due.faultyMonths(x, 2, "climb ^hall ;");
        due.faultyMonths(x, 2, "climb ^shop ;");
        due.faultyMonths(x, 2, "fright ^zed 1 ;");
        due.faultyMonths(x, 2, "drink ^attic ;");
        due.faultyMonths(x, 2, "move ^hall hall ;");
        due.faultyMonths(x, 2, "move ann ^bob ;");
        due.faultyMonths(x, 2, "move ann ^zed ;");
        due.faultyMonths(x, 4, "fright ann ^0 ;");
        due.faultyMonths(x, 4, "fright ann ^100 ;");
        due.faultyMonths(x, 4, "minutes ^0 ;");
        due.faultyMonths(x, 4, "minutes ^121 ;");
        due.faultyMonths(new PulseRent(), 2, "climb ^ann ;");
        due.is("noons need no HOUSE", Due.months(new PulseRent(), "noon ; minutes 9 ;"), 0);
    }

    private static void judge(Due due, PulseRent x, int wrong, int evicted, int many) {
        due.is("judged(0)", x.judged(0), wrong);
        due.is("judged(1)", x.judged(1), evicted);
        due.is("judged(2)", x.judged(2), many);
    }

    private static void judging(Due due) {
        PulseRent x = Due.housed(HOUSE);
        judge(due, x, -1, -1, 0);
        due.is("judged(3)", x.judged(3), -2);
        due.is("judged(-1)", x.judged(-1), -2);
        Due.months(x, "climb ann ; fright ann 9 ; drink ann ; minutes 1 ; noon ; move ann hall ;");
        judge(due, x, -1, -1, 0);
        String[] cannot = {"climb bob", "fright bob 9", "drink bob", "move bob attic", "move ann attic"};
        for (String line : cannot) {
            Due.months(x, "noon ; " + line + " ; climb bob ;");
            judge(due, x, 1, -1, 0);
        }
        // 60 beats a minute and 11: of 200 coins 191 can be paid, 11 more not
        Due.months(x, "minutes 3 ; noon ; noon ; climb ann ; move ann hall ;");
        judge(due, x, 3, 2, 1);
        Due.months(x, "move bob hall ; minutes 4 ; climb bob ; noon ; climb ann ; minutes 120 ; noon ;");
        judge(due, x, 4, 3, 2);
        // a line that can't be is left out: bob, who did not move, is not counted
        Due.months(x, "move bob attic ; minutes 20 ; minutes 20 ; noon ;");
        judge(due, x, 0, 3, 1);
    }

    private static void fromTheBegin(Due due) {
        PulseRent x = Due.housed(HOUSE);
        Due.months(x, "climb bob ; minutes 3 ; noon ;");
        x.move(1, 1);
        x.minutes(100);
        x.noon();
        due.is("ann is evicted now", x.tenant(0, 9), 1);
        judge(due, x, 0, -1, 0);
        due.is("nothing changed", x.count(3), 100);
        due.is("nor the evicted", x.count(6), 2);
    }
}
