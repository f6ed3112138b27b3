import java.util.ArrayDeque;
import java.util.ArrayList;
import java.util.Arrays;
import java.util.Deque;
import java.util.HashSet;
import java.util.List;
import java.util.Set;
import java.util.regex.Matcher;
import java.util.regex.Pattern;

/**
 * The FAULT of a text, worked out in another way than the class does: each line is a row of patterns, an E is a
 * walk between what may stand ahead of a PART and what behind one.
 */
final class FaultModel {
    private static final Set<String> RESERVED = new HashSet<>(Arrays.asList(("room stairs noise base tenant rest calm coins"
            + " in loves errand opens takes adds coffee lasts every due wish climb fright drink minutes noon move plain monk"
            + " runner sick not and or").split(" ")));
    private static final Pattern TOKEN = Pattern.compile("[a-z]+|[0-9]+|[^a-z0-9 \n]");

    private final Set<String> rooms = new HashSet<>();
    private final Set<String> tenants = new HashSet<>();
    private final Set<String> names = new HashSet<>();
    private final Set<String> lived = new HashSet<>();
    private final Set<String> loves = new HashSet<>();
    private final Set<String> once = new HashSet<>();
    private final int[] told = new int[3];
    private final List<String> tokens = new ArrayList<>();
    private final List<Integer> places = new ArrayList<>();
    private int at;
    private int fault;
    private String first = "";

    int house(String text) {
        cut(text);
        while (fault == 0 && at < tokens.size() - 1) {
            houseLine();
        }
        return fault;
    }

    /** Reads MONTHS of the HOUSE that was read; this model has to be asked for that one first. */
    int months(String text) {
        cut(text);
        for (int line = 0; fault == 0 && at < tokens.size() - 1; line++) {
            String[] rows = {"climb", "WHO ;", "fright", "WHO 1..99 ;", "drink", "WHO ;", "minutes", "1..120 ;", "noon", ";",
                "move", "WHO WHERE ;"};
            int row = Arrays.asList(rows).indexOf(tokens.get(at));
            if (row < 0 || row % 2 == 1) {
                wrong(1);
            } else if (line >= 30) {
                wrong(5);
            } else {
                at++;
                follow(rows[row + 1]);
            }
        }
        return fault;
    }

    private void cut(String text) {
        tokens.clear();
        places.clear();
        at = 0;
        fault = 0;
        Matcher m = TOKEN.matcher(text);
        while (m.find()) {
            String token = m.group();
            boolean word = Character.isLetter(token.charAt(0)) && token.charAt(0) >= 'a';
            boolean tooLong = word && token.length() > 8 || isDigit(token.charAt(0)) && token.length() > 4;
            boolean known = word || isDigit(token.charAt(0)) || "()<=+-*;".contains(token);
            tokens.add(tooLong || !known ? "?" : token);
            places.add(m.start());
        }
        tokens.add("END");
        places.add(text.length());
    }

    private static boolean isDigit(char c) {
        return c >= '0' && c <= '9';
    }

    private void wrong(int kind) {
        if (fault == 0) {
            fault = kind + 16 * places.get(at);
        }
    }

    private void houseLine() {
        String word = tokens.get(at);
        int table = Arrays.asList("room", "tenant", "errand").indexOf(word);
        boolean single = Arrays.asList("coffee", "every", "due", "wish").contains(word);
        if (table < 0 && !single && !word.equals("loves")) {
            wrong(1);
        } else if (table >= 0 && told[table] >= 6) {
            wrong(5);
        } else if (single && !once.add(word)) {
            wrong(3);
        } else {
            at++;
            follow(rowOf(word));
            if (table >= 0) {
                told[table]++;
            }
        }
    }

    private static String rowOf(String word) {
        switch (word) {
            case "room": return "NEW stairs 0..60 noise 0..20 base 0..999 ROOM ;";
            case "tenant": return "NEW KIND rest 40..99 calm 0..40 coins 0..9999 IN TENANT ;";
            case "errand": return "NEW opens 0..99 takes 1..20 adds 0..60 ;";
            case "loves": return "WHO LOVED ;";
            case "coffee": return "0..60 lasts 1..120 ;";
            case "every": return "1..30 ;";
            default: return word.equals("due") ? "DUE ;" : "WISH ;";
        }
    }

    private void follow(String row) {
        for (String part : row.split(" ")) {
            if (fault == 0) {
                step(part);
            }
        }
    }

    private void step(String part) {
        String token = tokens.get(at);
        switch (part) {
            case "NEW": need(isName(token), 1); need(!names.contains(token), 3); first = token; names.add(token); break;
            case "KIND": need(Arrays.asList("plain", "monk", "runner", "sick").contains(token), 1); break;
            case "WHO": need(isName(token), 1); need(tenants.contains(token), 2); first = token; break;
            case "LOVED": need(isName(token), 1); need(tenants.contains(token), 2);
                need(!token.equals(first) && loves.add(first + " " + token), 3); break;
            case "WHERE": need(isName(token), 1); need(rooms.contains(token), 2); break;
            case "ROOM": rooms.add(first); return;
            case "TENANT": tenants.add(first); return;
            case "IN": if (token.equals("in")) { at++; follow("FREE"); } return;
            case "FREE": need(isName(token), 1); need(rooms.contains(token), 2); need(lived.add(token), 3); break;
            case "DUE": formula(Arrays.asList("beats", "floor", "kind")); return;
            case "WISH": formula(Arrays.asList("steps", "loud", "floor", "kind")); return;
            default: literalOrNumber(part, token);
        }
        at += fault == 0 ? 1 : 0;
    }

    private void literalOrNumber(String part, String token) {
        int dots = part.indexOf("..");
        if (dots < 0) {
            need(token.equals(part), 1);
        } else {
            need(isDigit(token.charAt(0)), 1);
            int value = isDigit(token.charAt(0)) ? Integer.parseInt(token) : 0;
            need(value >= Integer.parseInt(part.substring(0, dots)) && value <= Integer.parseInt(part.substring(dots + 2)), 4);
        }
    }

    private void need(boolean so, int kind) {
        if (!so) {
            wrong(kind);
        }
    }

    private static boolean isName(String token) {
        return token.matches("[a-z]{1,8}") && !RESERVED.contains(token);
    }

    private void formula(List<String> facts) {
        // of each ( that is open: how many not wait for it, and whether its TEST has a < or = already
        Deque<int[]> open = new ArrayDeque<>();
        int nots = 0;
        int deep = 0;
        int compared = 0;
        boolean wanted = true;
        while (fault == 0) {
            String token = tokens.get(at);
            if (wanted) {
                boolean value = isDigit(token.charAt(0)) || facts.contains(token);
                need(value || token.equals("not") || token.equals("("), 1);
                need(deep < 5, 5);
                if (value) {
                    deep -= nots;
                    nots = 0;
                    wanted = false;
                } else {
                    deep++;
                    if (token.equals("not")) {
                        nots++;
                    } else {
                        open.push(new int[] {nots, compared});
                        nots = 0;
                        compared = 0;
                    }
                }
            } else if (token.equals("and") || token.equals("or")) {
                compared = 0;
                wanted = true;
            } else if (token.equals("<") || token.equals("=")) {
                need(compared == 0, 1);
                compared = 1;
                wanted = true;
            } else if (token.equals("+") || token.equals("-") || token.equals("*")) {
                wanted = true;
            } else if (token.equals(")") && !open.isEmpty()) {
                int[] outer = open.pop();
                deep -= 1 + outer[0];
                compared = outer[1];
            } else {
                need(open.isEmpty(), 1);
                return;
            }
            at += fault == 0 ? 1 : 0;
        }
    }
}
