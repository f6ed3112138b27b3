import java.util.ArrayList;
import java.util.Arrays;
import java.util.List;
import java.util.Random;

/** A second PulseRent in its plainest form, told of a drawn HOUSE by numbers and not by a text; ModelTest compares the two. */
final class PlainModel implements Cloneable {
    /** A law of what is due, or a wish: a text and what it comes to. */
    interface Law {
        int of(int a, int b, int c, int kind);
    }

    private static final String[] KINDS = {"plain", "monk", "runner", "sick"};
    private static final String[] DUES = {null, "beats * 2 - floor", "( kind = 3 ) * 100 + beats", "beats * beats", "0 - 1",
        "floor + 3 * kind"};
    private static final Law[] DUE_LAWS = {(b, f, n, k) -> b + f, (b, f, n, k) -> b * 2 - f,
        (b, f, n, k) -> (k == 3 ? 100 : 0) + b, (b, f, n, k) -> b * b, (b, f, n, k) -> -1, (b, f, n, k) -> f + 3 * k};
    private static final String[] WISHES = {null, "steps - loud", "floor * ( kind < 2 ) + steps", "7", "loud * loud - steps"};
    private static final Law[] WISH_LAWS = {(s, l, f, k) -> 0 - l * 3 - (k == 2 ? 0 : s) - f, (s, l, f, k) -> s - l,
        (s, l, f, k) -> f * (k < 2 ? 1 : 0) + s, (s, l, f, k) -> 7, (s, l, f, k) -> l * l - s};

    int[][] rooms;
    int[][] people;
    int[][] errands;
    boolean[][] loves;
    int coffee = 20;
    int lasts = 30;
    int every = 1;
    private int dueLaw;
    private int wishLaw;

    int minute;
    int[] where;
    int[] stir;
    int[] cups;
    int[] habit;
    int[] counted;
    int[] coins;
    boolean[] evicted;

    static PlainModel drawn(Random r) {
        PlainModel m = new PlainModel();
        m.rooms = new int[r.nextInt(6) + 1][];
        for (int i = 0; i < m.rooms.length; i++) {
            m.rooms[i] = new int[] {r.nextInt(61), r.nextInt(21), r.nextInt(r.nextBoolean() ? 10 : 1000)};
        }
        m.people = new int[r.nextInt(6) + 1][];
        m.loves = new boolean[m.people.length][m.people.length];
        List<Integer> free = new ArrayList<>();
        for (int i = 0; i < m.rooms.length; i++) {
            free.add(i);
        }
        for (int i = 0; i < m.people.length; i++) {
            int home = free.isEmpty() || r.nextInt(4) == 0 ? -1 : free.remove(r.nextInt(free.size()));
            m.people[i] = new int[] {r.nextInt(4), 40 + r.nextInt(r.nextBoolean() ? 4 : 60), r.nextInt(41),
                r.nextInt(r.nextBoolean() ? 1500 : 10000), home};
            for (int j = 0; j < m.people.length; j++) {
                m.loves[i][j] = i != j && r.nextInt(4) == 0;
            }
        }
        m.errands = new int[r.nextInt(6)][];
        for (int i = 0; i < m.errands.length; i++) {
            m.errands[i] = new int[] {r.nextInt(r.nextBoolean() ? 8 : 100), 1 + r.nextInt(r.nextBoolean() ? 3 : 20), r.nextInt(61)};
        }
        if (r.nextBoolean()) {
            m.coffee = r.nextInt(61);
            m.lasts = 1 + r.nextInt(r.nextBoolean() ? 5 : 120);
        }
        m.every = r.nextBoolean() ? 1 : 1 + r.nextInt(30);
        m.dueLaw = r.nextInt(DUES.length);
        m.wishLaw = r.nextInt(WISHES.length);
        m.begin();
        return m;
    }

    String told() {
        StringBuilder text = new StringBuilder();
        for (int i = 0; i < rooms.length; i++) {
            text.append("room r").append((char) ('a' + i)).append(" stairs ").append(rooms[i][0]).append(" noise ")
                    .append(rooms[i][1]).append(" base ").append(rooms[i][2]).append(";");
        }
        for (int i = 0; i < people.length; i++) {
            int[] p = people[i];
            text.append("tenant t").append((char) ('a' + i)).append(" ").append(KINDS[p[0]]).append(" rest ").append(p[1])
                    .append(" calm ").append(p[2]).append(" coins ").append(p[3]);
            text.append(p[4] < 0 ? "" : " in r" + (char) ('a' + p[4])).append(";");
        }
        for (int i = 0; i < people.length; i++) {
            for (int j = 0; j < people.length; j++) {
                if (loves[i][j] && text.length() < 700) {
                    text.append("loves t").append((char) ('a' + i)).append(" t").append((char) ('a' + j)).append(";");
                } else {
                    loves[i][j] = false;
                }
            }
        }
        for (int i = 0; i < errands.length; i++) {
            text.append("errand e").append((char) ('a' + i)).append(" opens ").append(errands[i][0]).append(" takes ")
                    .append(errands[i][1]).append(" adds ").append(errands[i][2]).append(";");
        }
        text.append("coffee ").append(coffee).append(" lasts ").append(lasts).append(";every ").append(every).append(";");
        text.append(DUES[dueLaw] == null ? "" : "due " + DUES[dueLaw] + ";");
        text.append(WISHES[wishLaw] == null ? "" : "wish " + WISHES[wishLaw] + ";");
        return text.toString();
    }

    void begin() {
        int n = people.length;
        minute = 0;
        where = new int[n];
        stir = new int[n];
        cups = new int[n];
        habit = new int[n];
        counted = new int[n];
        coins = new int[n];
        evicted = new boolean[n];
        for (int i = 0; i < n; i++) {
            where[i] = people[i][4];
            coins[i] = people[i][3];
        }
    }

    PlainModel copy() {
        try {
            PlainModel m = (PlainModel) clone();
            m.where = where.clone();
            m.stir = stir.clone();
            m.cups = cups.clone();
            m.habit = habit.clone();
            m.counted = counted.clone();
            m.coins = coins.clone();
            m.evicted = evicted.clone();
            return m;
        } catch (CloneNotSupportedException e) {
            throw new IllegalStateException(e);
        }
    }

    boolean in(int t) {
        return where[t] >= 0;
    }

    int pulse(int t) {
        int beats = people[t][1] + (people[t][0] == 3 ? 20 : 0) + stir[t] + rooms[where[t]][1];
        beats += cups[t] > 0 ? coffee : 0;
        for (int other = 0; other < people.length; other++) {
            if (loves[t][other] && in(other)) {
                beats += 8;
                break;
            }
        }
        return beats > 240 ? 240 : beats;
    }

    int calmer(int t, int much) {
        return people[t][0] == 1 ? much / 4 : much / 2;
    }

    int pass(int many) {
        int beats = 0;
        for (int i = 0; i < many; i++) {
            for (int t = 0; t < people.length; t++) {
                if (minute % every == 0 && in(t)) {
                    counted[t] += pulse(t) * every;
                    beats += pulse(t) * every;
                }
            }
            for (int t = 0; t < people.length; t++) {
                stir[t] = calmer(t, stir[t]);
                cups[t] = cups[t] == 0 ? 0 : cups[t] - 1;
            }
            minute++;
        }
        return beats;
    }

    void climb(int t) {
        int stairs = rooms[where[t]][0];
        stir[t] += people[t][0] == 2 ? stairs / 2 : stairs;
    }

    void fright(int t, int much) {
        int felt = much > people[t][2] ? much - people[t][2] : 0;
        stir[t] += felt / (1 + habit[t]);
        habit[t]++;
    }

    boolean canMove(int t, int room) {
        for (int other = 0; other < people.length; other++) {
            if (where[other] == room) {
                return false;
            }
        }
        return !evicted[t];
    }

    int law(int beats, int floor, int kind) {
        int value = DUE_LAWS[dueLaw].of(beats, floor, 0, kind);
        return value < 0 ? 0 : value > 9999 ? 9999 : value;
    }

    int owed(int t) {
        return law(counted[t], rooms[where[t]][2], people[t][0]);
    }

    int noon() {
        int paid = 0;
        for (int t = 0; t < people.length; t++) {
            if (in(t)) {
                int due = owed(t);
                int most = people[t][0] == 3 ? coins[t] + 99 : coins[t];
                if (coins[t] >= due) {
                    coins[t] -= due;
                    paid += due;
                } else if (due <= most) {
                    paid += coins[t];
                    coins[t] = 0;
                } else {
                    evicted[t] = true;
                    where[t] = -1;
                }
            }
        }
        counted = new int[people.length];
        return paid;
    }

    int wish(int t, int room) {
        return WISH_LAWS[wishLaw].of(rooms[room][0], rooms[room][1], rooms[room][2], people[t][0]);
    }

    /** As told: each asks, a ROOM keeps the best, who is sent away asks the next. */
    int[] match() {
        int n = people.length;
        int[] has = new int[rooms.length];
        Arrays.fill(has, -1);
        boolean[][] asked = new boolean[n][rooms.length];
        boolean again = true;
        while (again) {
            again = false;
            for (int t = 0; t < n; t++) {
                if (!evicted[t] && indexOf(has, t) < 0) {
                    int best = -1;
                    for (int room = 0; room < rooms.length; room++) {
                        if (!asked[t][room] && (best < 0 || wish(t, room) > wish(t, best))) {
                            best = room;
                        }
                    }
                    if (best >= 0) {
                        asked[t][best] = true;
                        again = true;
                        int holder = has[best];
                        if (holder < 0 || people[t][1] > people[holder][1] || people[t][1] == people[holder][1] && t < holder) {
                            has[best] = t;
                        }
                    }
                }
            }
        }
        int[] of = new int[n];
        for (int t = 0; t < n; t++) {
            of[t] = indexOf(has, t);
        }
        return of;
    }

    private static int indexOf(int[] row, int what) {
        for (int i = 0; i < row.length; i++) {
            if (row[i] == what) {
                return i;
            }
        }
        return -1;
    }

    /** Beats and order of the best round of errands, by going through all orders in order. */
    int[] errands(int t) {
        int[] best = new int[errands.length + 1];
        best[0] = Integer.MAX_VALUE;
        orders(t, new ArrayList<>(), best);
        return best;
    }

    private void orders(int t, List<Integer> order, int[] best) {
        if (order.size() == errands.length) {
            int beats = round(t, order);
            if (beats < best[0]) {
                best[0] = beats;
                for (int i = 0; i < errands.length; i++) {
                    best[i + 1] = order.get(i);
                }
            }
            return;
        }
        for (int e = 0; e < errands.length; e++) {
            if (!order.contains(e)) {
                order.add(e);
                orders(t, order, best);
                order.remove(order.size() - 1);
            }
        }
    }

    private int round(int t, List<Integer> order) {
        int rest = people[t][1] + (people[t][0] == 3 ? 20 : 0);
        int now = 0;
        int beats = 0;
        int felt = 0;
        for (int e : order) {
            while (now < errands[e][0]) {
                beats += rest + felt;
                felt = calmer(t, felt);
                now++;
            }
            for (int i = 0; i < errands[e][1]; i++) {
                beats += rest + felt + errands[e][2];
                felt = calmer(t, felt);
                now++;
            }
            felt = felt < errands[e][2] ? errands[e][2] : felt;
        }
        return beats;
    }
}
