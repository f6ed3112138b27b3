import java.util.ArrayDeque;
import java.util.Arrays;
import java.util.Deque;
import java.util.Random;

/** Drawn HOUSES and drawn calls, at most 512 an object, compared with the plain model. */
public final class ModelTest {
    private static final int NONE = PulseRent.NONE;
    private final Due due;
    private final Random random;
    private final PulseRent x = new PulseRent();
    private PlainModel m;
    private final Deque<PlainModel> past = new ArrayDeque<>();
    private final PlainModel[] marks = new PlainModel[4];
    private int calls;

    private ModelTest(Due due, Random random) {
        this.due = due;
        this.random = random;
    }

    public static void main(String[] args) {
        Due due = new Due("ModelTest");
        for (int seed = 0; seed < 400; seed++) {
            new ModelTest(due, new Random(seed)).run();
        }
        due.end();
    }

    private void run() {
        tell();
        while (calls < 480) {
            if (random.nextInt(60) == 0 && calls < 300) {
                tell();
            }
            int call = random.nextInt(25);
            if (call < 12) {
                act(call);
            } else {
                ask(call);
            }
        }
    }

    private void is(String call, long got, long want) {
        calls++;
        due.is(call, got, want);
    }

    private void tell() {
        String text;
        do {
            m = PlainModel.drawn(random);
            text = m.told();
        } while (text.length() > 1000);
        Due.feed(x, text);
        calls += (text.length() + 23) / 24;
        is("house() of " + text, x.house(), 0);
        past.clear();
        Arrays.fill(marks, null);
    }

    private void remember() {
        past.push(m.copy());
        if (past.size() > 16) {
            past.removeLast();
        }
    }

    private void act(int call) {
        int t = random.nextInt(m.people.length);
        int much = random.nextInt(101);
        boolean in = m.in(t);
        if (call == 0) {
            if (in) {
                remember();
                m.climb(t);
            }
            is("climb(" + t + ")", x.climb(t), in ? m.stir[t] : NONE);
        } else if (call <= 2) {
            boolean can = in && much >= 1 && much <= 99;
            if (can) {
                remember();
                m.fright(t, much);
            }
            is("fright(" + t + ", " + much + ")", x.fright(t, much), can ? m.stir[t] : NONE);
        } else if (call == 3) {
            if (in) {
                remember();
                m.cups[t] = m.lasts;
            }
            is("drink(" + t + ")", x.drink(t) ? 1 : 0, in ? 1 : 0);
        } else if (call <= 6) {
            int many = 1 + random.nextInt(random.nextInt(5) == 0 ? 120 : 6);
            remember();
            m.pass(many);
            is("minutes(" + many + ")", x.minutes(many), m.minute);
        } else if (call == 7) {
            remember();
            is("noon()", x.noon(), m.noon());
        } else if (call == 8) {
            int room = random.nextInt(m.rooms.length);
            boolean can = m.canMove(t, room);
            if (can) {
                remember();
                m.where[t] = room;
            }
            is("move(" + t + ", " + room + ")", x.move(t, room) ? 1 : 0, can ? 1 : 0);
        } else if (call <= 10) {
            is("undo()", x.undo() ? 1 : 0, past.isEmpty() ? 0 : 1);
            m = past.isEmpty() ? m : past.pop();
        } else {
            markOrBack();
        }
        look(t);
    }

    private void markOrBack() {
        int mark = random.nextInt(4);
        boolean back = random.nextInt(3) == 0;
        boolean can = !back || marks[mark] != null;
        is("mark(" + mark + ", " + back + ")", x.mark(mark, back) ? 1 : 0, can ? 1 : 0);
        if (back && can) {
            m = marks[mark].copy();
            past.clear();
        } else if (!back) {
            marks[mark] = m.copy();
        }
    }

    private void look(int t) {
        int[] want = {m.people[t][0], m.people[t][1], m.people[t][2], m.coins[t], m.where[t], m.stir[t], m.cups[t], m.habit[t],
            m.counted[t], m.evicted[t] ? 1 : 0};
        int what = random.nextInt(10);
        is("tenant(" + t + ", " + what + ")", x.tenant(t, what), want[what]);
        is("pulse(" + t + ")", x.pulse(t), m.in(t) ? m.pulse(t) : NONE);
        is("owed(" + t + ")", x.owed(t), m.in(t) ? m.owed(t) : NONE);
        is("count(11)", x.count(11), past.size());
        int room = random.nextInt(m.rooms.length);
        int who = NONE;
        for (int other = 0; other < m.people.length; other++) {
            who = m.where[other] == room ? other : who;
        }
        is("room(" + room + ", 3)", x.room(room, 3), who);
    }

    private void ask(int call) {
        int t = random.nextInt(m.people.length);
        int other = random.nextInt(m.people.length);
        switch (call) {
            case 12: askWill(t); break;
            case 13: case 14: askLast(t); break;
            case 15: askErrands(t); break;
            case 16: is("match(" + t + ")", x.match(t), m.match()[t]); break;
            case 17: askSpare(t, other); break;
            case 18: case 19: askHaunt(t); break;
            case 20: askLease(t, other); break;
            case 21: case 22: askLaw(); break;
            case 23: askJudged(); break;
            default: askYears();
        }
    }

    private void askWill(int t) {
        int minutes = random.nextInt(241);
        PlainModel trial = m.copy();
        trial.pass(minutes);
        is("will(" + t + ", " + minutes + ")", x.will(t, minutes), m.in(t) ? trial.counted[t] : NONE);
    }

    private void askLast(int t) {
        int minutes = 1 + random.nextInt(random.nextInt(4) == 0 ? 240 : 12);
        PlainModel trial = m.copy();
        int noons = 0;
        while (noons < 20 && trial.in(t)) {
            trial.pass(minutes);
            trial.noon();
            noons += trial.in(t) ? 1 : 0;
        }
        is("last(" + t + ", " + minutes + ")", x.last(t, minutes), m.in(t) ? noons : NONE);
    }

    private void askErrands(int t) {
        int[] best = m.errands(t);
        int what = random.nextInt(best.length + 1);
        is("errands(" + t + ", " + what + ") of " + m.told(), x.errands(t, what), what < best.length ? best[what] : NONE);
    }

    private void askSpare(int t, int other) {
        int[] of = m.match();
        boolean can = t != other && of[t] >= 0 && of[other] >= 0;
        boolean both = can && m.wish(t, of[other]) > m.wish(t, of[t]) && m.wish(other, of[t]) > m.wish(other, of[other]);
        is("spare(" + t + ", " + other + ")", x.spare(t, other), !can ? NONE : both ? 1 : 0);
    }

    private void askHaunt(int t) {
        int frights = 1 + random.nextInt(3);
        int much = 1 + random.nextInt(99);
        int most = NONE;
        int when = NONE;
        for (int bits = 4095; bits >= 0 && m.in(t); bits--) {
            if (Integer.bitCount(bits) == frights) {
                PlainModel trial = m.copy();
                for (int i = 0; i < 12; i++) {
                    if ((bits >> i & 1) == 1) {
                        trial.fright(t, much);
                    }
                    trial.pass(1);
                }
                int counted = trial.counted[t] - m.counted[t];
                when = counted >= most ? bits : when;
                most = Math.max(most, counted);
            }
        }
        is("haunt(" + t + ", " + frights + ", " + much + ", 0)", x.haunt(t, frights, much, 0), most);
        is("haunt(" + t + ", " + frights + ", " + much + ", 1)", x.haunt(t, frights, much, 1), when);
    }

    private void askLease(int t, int other) {
        if (t != other && m.in(t) && m.in(other)) {
            int floor = Math.min(m.rooms[m.where[t]][2], m.rooms[m.where[other]][2]);
            int saved = m.owed(t) + m.owed(other) - m.law(m.counted[t] + m.counted[other], floor, m.people[t][0]);
            is("lease(" + t + ", " + other + ")", x.lease(t, other), saved);
            is("share(" + t + ", " + other + ")", x.share(t, other), m.owed(t) - saved / 2);
        }
    }

    private void askLaw() {
        int coffee = random.nextInt(61);
        int minutes = 1 + random.nextInt(random.nextInt(4) == 0 ? 240 : 12);
        PlainModel trial = m.copy();
        trial.coffee = coffee;
        int want = 0;
        for (int t = 0; t < m.people.length; t++) {
            trial.cups[t] = trial.in(t) ? trial.lasts : trial.cups[t];
        }
        trial.pass(minutes);
        trial.noon();
        for (int t = 0; t < m.people.length; t++) {
            want |= m.in(t) && trial.evicted[t] ? 1 << t : 0;
        }
        is("law(" + coffee + ", " + minutes + ")", x.law(coffee, minutes), want);
    }

    /** Tells MONTHS, doing each line by the model from the begin on. */
    private void askJudged() {
        PlainModel trial = m.copy();
        trial.begin();
        int[] want = {NONE, NONE, 0};
        int lines = random.nextInt(calls < 300 ? 31 : 5);
        StringBuilder text = new StringBuilder();
        for (int line = 0; line < lines; line++) {
            boolean can = drawLine(trial, text);
            want[0] = !can && want[0] == NONE ? line : want[0];
            want[2] = 0;
            for (boolean gone : trial.evicted) {
                want[2] += gone ? 1 : 0;
            }
            want[1] = want[2] > 0 && want[1] == NONE ? line : want[1];
        }
        Due.feed(x, text.toString());
        calls += (text.length() + 23) / 24;
        is("months() of " + text, x.months(), 0);
        is("count(9)", x.count(9), lines);
        for (int what = 0; what < 3; what++) {
            is("judged(" + what + ") of " + text, x.judged(what), want[what]);
        }
    }

    private boolean drawLine(PlainModel trial, StringBuilder text) {
        int t = random.nextInt(m.people.length);
        int room = random.nextInt(m.rooms.length);
        int many = 1 + random.nextInt(random.nextBoolean() ? 6 : 99);
        boolean in = trial.in(t);
        String name = " t" + (char) ('a' + t);
        switch (random.nextInt(6)) {
            case 0:
                text.append("climb").append(name).append(';');
                if (in) {
                    trial.climb(t);
                }
                return in;
            case 1:
                text.append("fright").append(name).append(' ').append(many).append(';');
                if (in) {
                    trial.fright(t, many);
                }
                return in;
            case 2:
                text.append("drink").append(name).append(';');
                trial.cups[t] = in ? trial.lasts : trial.cups[t];
                return in;
            case 3:
                text.append("move").append(name).append(" r").append((char) ('a' + room)).append(';');
                boolean can = trial.canMove(t, room);
                trial.where[t] = can ? room : trial.where[t];
                return can;
            case 4:
                text.append("noon;");
                trial.noon();
                return true;
            default:
                text.append("minutes ").append(many).append(';');
                trial.pass(many);
                return true;
        }
    }

    private void askYears() {
        int seed = random.nextInt(10000);
        int noons = 1 + random.nextInt(30);
        PlainModel trial = m.copy();
        long g = seed;
        int paid = 0;
        int beats = 0;
        int in = 0;
        for (int i = 0; i < noons; i++) {
            for (int t = 0; t < m.people.length; t++) {
                if (trial.in(t)) {
                    g = (g * 1103515245L + 12345L) % (1L << 31);
                    int draw = (int) ((g >> 16) % 6);
                    if (draw == 0) {
                        trial.climb(t);
                    } else if (draw == 1) {
                        trial.fright(t, 30);
                    } else if (draw == 2) {
                        trial.cups[t] = trial.lasts;
                    }
                }
            }
            beats += trial.pass(10);
            paid += trial.noon();
        }
        for (int t = 0; t < m.people.length; t++) {
            in += trial.in(t) ? 1 : 0;
        }
        int what = random.nextInt(3);
        is("years(" + seed + ", " + noons + ", " + what + ")", x.years(seed, noons, what), what == 0 ? paid : what == 1 ? in : beats);
    }
}
