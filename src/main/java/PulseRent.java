import java.util.Arrays;
import java.util.NoSuchElementException;

/**
 * Rent by heartbeats: a house, its tenants and what is counted at their wrists.
 * Every row is made with the object and used again, so that no call makes anything new.
 */
public final class PulseRent {
    public static final int NONE = -1;

    /** What judged and match answer for arguments that are none, since NONE has a meaning there. */
    private static final int OTHERS = -2;

    private static final int TAPE_MOST = 1000;
    private static final int TABLE_MOST = 6;
    private static final int LINES_MOST = 30;
    private static final int UNDO_MOST = 16;
    private static final int MARKS_MOST = 4;
    private static final int SAMPLES_MOST = 6;

    private static final int CANNOT_STAND = 1;
    private static final int NOT_TOLD = 2;
    private static final int TOLD_ALREADY = 3;
    private static final int NOT_AS_TOLD = 4;
    private static final int TOO_MANY = 5;

    private static final int PLAIN = 0;
    private static final int MONK = 1;
    private static final int RUNNER = 2;
    private static final int SICK = 3;

    private static final int STAIRS = 0;
    private static final int NOISE = 1;
    private static final int BASE = 2;

    private static final int KIND = 0;
    private static final int REST = 1;
    private static final int CALM = 2;
    private static final int COINS = 3;
    private static final int HOME = 4;
    private static final int LOVES = 5;
    private static final int HEART = 6;

    private static final int OPENS = 0;
    private static final int TAKES = 1;
    private static final int ADDS = 2;

    private static final int COFFEE_UNTOLD = 20;
    private static final int LASTS_UNTOLD = 30;
    private static final int EVERY_UNTOLD = 1;

    private static final int FRIGHT_MOST = 99;
    private static final int PASSED_MOST = 120;
    private static final int CREDIT_MOST = 99;
    private static final int PULSE_MOST = 240;
    private static final int DUE_MOST = 9999;
    private static final int MINUTES_MOST = 240;
    private static final int NOONS_MOST = 20;
    private static final int HAUNT_MINUTES = 12;
    private static final int DAY_MINUTES = 6;

    private final Tape tape = new Tape();
    private House house = new House();
    private House draftHouse = new House();
    private Months months = new Months();
    private Months draftMonths = new Months();
    private final State now = new State();
    private final State trial = new State();
    private final State[] past = new State[UNDO_MOST];
    private int pastNext;
    private int pastCount;
    private final State[] marks = new State[MARKS_MOST];
    private final Samples[] markSamples = new Samples[MARKS_MOST];
    private int marked;
    private final Samples samples = new Samples();
    private final Route route = new Route();
    private final Matching matching = new Matching();
    private final Days guessed = new Days();

    public PulseRent() {
        for (int i = 0; i < UNDO_MOST; i++) {
            past[i] = new State();
        }
        for (int i = 0; i < MARKS_MOST; i++) {
            marks[i] = new State();
            markSamples[i] = new Samples();
        }
    }

    public int feed(long a, long b, long c) {
        tape.addBytes(a);
        tape.addBytes(b);
        tape.addBytes(c);
        return tape.size;
    }

    public int house() {
        int fault = draftHouse.readFrom(tape);
        if (fault != 0) {
            return fault;
        }
        House read = draftHouse;
        draftHouse = house;
        house = read;
        now.begin(house);
        months.size = 0;
        samples.size = 0;
        pastCount = 0;
        marked = 0;
        return 0;
    }

    public int months() {
        int fault = draftMonths.readFrom(tape, house);
        if (fault != 0) {
            return fault;
        }
        Months read = draftMonths;
        draftMonths = months;
        months = read;
        return 0;
    }

    public int room(int room, int what) {
        if (!house.rooms.has(room)) {
            return NONE;
        }
        return what == 3 ? now.whoIsIn(room) : house.rooms.fact(what, room);
    }

    public int tenant(int tenant, int what) {
        if (!house.tenants.has(tenant)) {
            return NONE;
        }
        return what <= CALM ? house.tenants.fact(what, tenant) : now.factOf(tenant, what);
    }

    public int pulse(int tenant) {
        return now.pulseOf(house, tenant);
    }

    public int climb(int tenant) {
        if (!now.isIn(tenant)) {
            return NONE;
        }
        remember();
        now.doClimb(house, tenant);
        return now.stir[tenant];
    }

    public int fright(int tenant, int beats) {
        if (!now.isIn(tenant) || !isWithin(beats, 1, FRIGHT_MOST)) {
            return NONE;
        }
        remember();
        now.doFright(house, tenant, beats);
        return now.stir[tenant];
    }

    public boolean drink(int tenant) {
        if (!now.isIn(tenant)) {
            return false;
        }
        remember();
        return now.doDrink(house, tenant);
    }

    public int minutes(int many) {
        if (!isWithin(many, 1, PASSED_MOST)) {
            return NONE;
        }
        remember();
        now.passMinutes(house, many);
        return now.minute;
    }

    public int noon() {
        remember();
        return now.holdNoon(house);
    }

    public boolean move(int tenant, int room) {
        if (!now.canMove(house, tenant, room)) {
            return false;
        }
        remember();
        return now.doMove(house, tenant, room);
    }

    public boolean undo() {
        if (pastCount <= 0) {
            return false;
        }
        pastCount--;
        pastNext = (pastNext + UNDO_MOST - 1) % UNDO_MOST;
        now.copyFrom(past[pastNext]);
        return true;
    }

    public int judged(int what) {
        if (!isWithin(what, 0, 2)) {
            return OTHERS;
        }
        int firstWrong = NONE;
        int firstEvicted = NONE;
        trial.begin(house);
        for (int line = 0; line < months.size; line++) {
            boolean can = trial.perform(house, months, line);
            firstWrong = !can && firstWrong == NONE ? line : firstWrong;
            firstEvicted = trial.evicted != 0 && firstEvicted == NONE ? line : firstEvicted;
        }
        if (what == 2) {
            return Integer.bitCount(trial.evicted);
        }
        return what == 0 ? firstWrong : firstEvicted;
    }

    public int owed(int tenant) {
        return now.dueOf(house, tenant);
    }

    public int will(int tenant, int minutes) {
        if (!now.isIn(tenant) || !isWithin(minutes, 0, MINUTES_MOST)) {
            return NONE;
        }
        trial.copyFrom(now);
        trial.passMinutes(house, minutes);
        return trial.counted[tenant];
    }

    public int last(int tenant, int minutes) {
        if (!now.isIn(tenant) || !isWithin(minutes, 1, MINUTES_MOST)) {
            return NONE;
        }
        trial.copyFrom(now);
        int noons = 0;
        for (int i = 0; i < NOONS_MOST && trial.isIn(tenant); i++) {
            trial.passMinutes(house, minutes);
            trial.holdNoon(house);
            noons += trial.isIn(tenant) ? 1 : 0;
        }
        return noons;
    }

    public int errands(int tenant, int what) {
        int many = house.errands.size;
        if (!house.tenants.has(tenant) || !isWithin(what, 0, many)) {
            return NONE;
        }
        route.find(house, tenant);
        return what == 0 ? route.best : route.stop(what - 1);
    }

    public int match(int tenant) {
        if (!house.tenants.has(tenant)) {
            return OTHERS;
        }
        matching.settle(house, now.evicted);
        return matching.roomFor(tenant);
    }

    public int spare(int tenant, int other) {
        if (!house.tenants.has(tenant) || !house.tenants.has(other) || tenant == other) {
            return NONE;
        }
        matching.settle(house, now.evicted);
        int mine = matching.roomFor(tenant);
        int his = matching.roomFor(other);
        if (mine == NONE || his == NONE) {
            return NONE;
        }
        return house.wouldRather(tenant, his, mine) && house.wouldRather(other, mine, his) ? 1 : 0;
    }

    public int sampled(int minutes, int bad, int counted, int times) {
        if (!isWithin(minutes, 1, 30) || !isWithin(bad, 0, minutes)
                || !isWithin(counted, 0, minutes) || !isWithin(times, 0, counted)) {
            return NONE;
        }
        long seen = 0;
        for (int k = times; k <= counted; k++) {
            seen += choices(bad, k) * choices(minutes - bad, counted - k);
        }
        long all = choices(minutes, counted);
        return all > 0 ? (int) (seen * 1000000L / all) : NONE;
    }

    public int haunt(int tenant, int frights, int beats, int what) {
        if (!now.isIn(tenant) || !isWithin(frights, 1, 3) || !isWithin(beats, 1, FRIGHT_MOST)
                || !isWithin(what, 0, 1)) {
            return NONE;
        }
        int most = NONE;
        int when = 0;
        for (int bits = 0; bits < 1 << HAUNT_MINUTES; bits++) {
            if (Integer.bitCount(bits) == frights) {
                int counted = now.haunted(house, tenant, beats, bits);
                when = counted > most ? bits : when;
                most = Math.max(most, counted);
            }
        }
        return what == 0 ? most : when;
    }

    public int lease(int tenant, int other) throws NoSuchElementException {
        if (!areTwoIn(tenant, other)) {
            throw new NoSuchElementException("a lease is of two who are in");
        }
        return now.savedBy(house, tenant, other);
    }

    public int share(int tenant, int other) throws NoSuchElementException {
        if (!areTwoIn(tenant, other)) {
            throw new NoSuchElementException("a lease is of two who are in");
        }
        return now.dueOf(house, tenant) - now.savedBy(house, tenant, other) / 2;
    }

    public int law(int coffee, int minutes) {
        if (!isWithin(coffee, 0, 60) || !isWithin(minutes, 1, MINUTES_MOST)) {
            return NONE;
        }
        trial.copyFrom(now);
        trial.coffeeBeats = coffee;
        for (int t = 0; t < TABLE_MOST; t++) {
            trial.doDrink(house, t);
        }
        trial.passMinutes(house, minutes);
        trial.holdNoon(house);
        return trial.evicted & ~now.evicted;
    }

    public boolean sample(int minute, int beats) {
        return isWithin(minute, 0, DAY_MINUTES - 1) && isWithin(beats, 0, PULSE_MOST)
                && samples.add(minute, beats);
    }

    public int days(int tenant) {
        if (!house.tenants.has(tenant)) {
            return NONE;
        }
        guessed.find(house, tenant, samples);
        return guessed.many;
    }

    public int did(int tenant, int minute) {
        if (!house.tenants.has(tenant) || !isWithin(minute, 0, DAY_MINUTES - 1)) {
            return NONE;
        }
        guessed.find(house, tenant, samples);
        return guessed.many > 0 ? guessed.firstDay[minute] : NONE;
    }

    public int next(int tenant) {
        if (!house.tenants.has(tenant)) {
            return NONE;
        }
        guessed.find(house, tenant, samples);
        return guessed.bestMinute();
    }

    public int years(int seed, int noons, int what) {
        if (!isWithin(seed, 0, 9999) || !isWithin(noons, 1, 30) || !isWithin(what, 0, 2)) {
            return NONE;
        }
        trial.copyFrom(now);
        long drawn = seed;
        int paid = 0;
        int beats = 0;
        for (int i = 0; i < noons; i++) {
            drawn = trial.drawDeeds(house, drawn);
            beats += trial.passMinutes(house, 10);
            paid += trial.holdNoon(house);
        }
        if (what == 1) {
            return Integer.bitCount(trial.inBits());
        }
        return what == 0 ? paid : beats;
    }

    public boolean mark(int mark, boolean back) {
        if (!isWithin(mark, 0, MARKS_MOST - 1)) {
            return false;
        }
        int bit = 1 << mark;
        if (!back) {
            marks[mark].copyFrom(now);
            markSamples[mark].copyFrom(samples);
            marked |= bit;
            return true;
        }
        if ((marked & bit) == 0) {
            return false;
        }
        now.copyFrom(marks[mark]);
        samples.copyFrom(markSamples[mark]);
        pastCount = 0;
        return true;
    }

    public int count(int what) {
        switch (what) {
            case 0: return house.rooms.size;
            case 1: return house.tenants.size;
            case 2: return house.errands.size;
            case 3: return now.minute;
            case 4: return now.coinsOfAll();
            case 5: return Integer.bitCount(now.inBits());
            case 6: return Integer.bitCount(now.evicted);
            case 7: return house.coffee;
            case 8: return house.every;
            case 9: return months.size;
            case 10: return samples.size;
            case 11: return pastCount;
            case 12: return tape.size;
            default: return NONE;
        }
    }

    private void remember() {
        if (pastNext >= 0 && pastNext < UNDO_MOST) {
            past[pastNext].copyFrom(now);
        }
        pastNext = (pastNext + 1) % UNDO_MOST;
        pastCount = Math.min(UNDO_MOST, pastCount + 1);
    }

    private boolean areTwoIn(int tenant, int other) {
        return tenant != other && now.isIn(tenant) && now.isIn(other);
    }

    private static boolean isWithin(int value, int least, int most) {
        return value >= least && value <= most;
    }

    /** In how many ways some of all can be taken; each step divides evenly. */
    private static long choices(int all, int some) {
        if (some < 0 || some > all) {
            return 0;
        }
        long ways = 1;
        for (int i = 1; i <= some; i++) {
            ways = ways * (all - some + i) / i;
        }
        return ways;
    }

    /** The words of the language; the facts are not kept from being NAMES. */
    private enum Word {
        ROOM("room", true), STAIRS("stairs", true), NOISE("noise", true), BASE("base", true),
        TENANT("tenant", true), REST("rest", true), CALM("calm", true), COINS("coins", true),
        IN("in", true), LOVES("loves", true), ERRAND("errand", true), OPENS("opens", true),
        TAKES("takes", true), ADDS("adds", true), COFFEE("coffee", true), LASTS("lasts", true),
        EVERY("every", true), DUE("due", true), WISH("wish", true), CLIMB("climb", true),
        FRIGHT("fright", true), DRINK("drink", true), MINUTES("minutes", true), NOON("noon", true),
        MOVE("move", true), PLAIN("plain", true), MONK("monk", true), RUNNER("runner", true),
        SICK("sick", true), NOT("not", true), AND("and", true), OR("or", true),
        BEATS("beats", false), FLOOR("floor", false), KIND("kind", false), STEPS("steps", false),
        LOUD("loud", false);

        private static final Word[] ALL = values();

        private final long code;
        private final boolean reserved;

        Word(String text, boolean reserved) {
            long packed = 0;
            for (int i = 0; i < text.length(); i++) {
                packed = longer(packed, text.charAt(i));
            }
            this.code = packed;
            this.reserved = reserved;
        }

        /** A WORD of 8 letters fits a long, 5 bits each, so that no text need be made of it. */
        static long longer(long packed, char letter) {
            return packed * 32 + (letter - 'a' + 1);
        }

        static Word coded(long code) {
            for (int i = 0; i < ALL.length; i++) {
                if (ALL[i].code == code) {
                    return ALL[i];
                }
            }
            return null;
        }
    }

    /**
     * The TAPE and the token on it that is read now. The first FAULT stays: behind it nothing
     * is accepted any more, so that who reads may go on to the end of his line unasked.
     */
    private static final class Tape {
        private static final int END = 0;
        private static final int NO_TOKEN = 1;
        private static final int WORD = 2;
        private static final int NUMBER = 3;
        private static final int SIGN = 4;

        private static final int WORD_MOST = 8;
        private static final int DIGITS_MOST = 4;

        private final char[] signs = new char[TAPE_MOST];
        private int size;
        private int at;
        private int kind;
        private int place;
        private int number;
        private char sign;
        private long name;
        private Word word;
        private int fault;

        void addBytes(long bytes) {
            for (int shift = 56; shift >= 0; shift -= 8) {
                int next = (int) (bytes >> shift) & 255;
                if ((next == 10 || isWithin(next, 32, 126)) && size < TAPE_MOST) {
                    signs[size] = (char) next;
                    size++;
                }
            }
        }

        void rewind() {
            at = 0;
            fault = 0;
            advance();
        }

        /** What reads the TAPE takes it, with a FAULT too. */
        int takeAway() {
            size = 0;
            return fault;
        }

        void advance() {
            while (at < size && (signs[at] == 10 || signs[at] == 32)) {
                at++;
            }
            place = at;
            if (at >= size) {
                kind = END;
            } else if (isLetter(signs[at])) {
                scanWord();
            } else if (isDigit(signs[at])) {
                scanNumber();
            } else {
                sign = signs[at];
                kind = "()<=+-*;".indexOf(sign) >= 0 ? SIGN : NO_TOKEN;
                at++;
            }
        }

        private void scanWord() {
            name = 0;
            while (at < size && isLetter(signs[at])) {
                name = Word.longer(name, signs[at]);
                at++;
            }
            kind = at - place <= WORD_MOST ? WORD : NO_TOKEN;
            word = kind == WORD ? Word.coded(name) : null;
        }

        private void scanNumber() {
            number = 0;
            while (at < size && isDigit(signs[at])) {
                number = number * 10 + (signs[at] - '0');
                at++;
            }
            kind = at - place <= DIGITS_MOST ? NUMBER : NO_TOKEN;
        }

        private static boolean isLetter(char c) {
            return c >= 'a' && c <= 'z';
        }

        private static boolean isDigit(char c) {
            return c >= '0' && c <= '9';
        }

        void fail(int why) {
            if (fault == 0) {
                fault = why + 16 * place;
            }
        }

        boolean isOver() {
            return fault != 0 || kind == END;
        }

        boolean isWord(Word wanted) {
            return fault == 0 && kind == WORD && word == wanted;
        }

        boolean isSign(char wanted) {
            return fault == 0 && kind == SIGN && sign == wanted;
        }

        boolean isNumber() {
            return fault == 0 && kind == NUMBER;
        }

        boolean isName() {
            return fault == 0 && kind == WORD && (word == null || !word.reserved);
        }

        void needWord(Word wanted) {
            if (isWord(wanted)) {
                advance();
            } else {
                fail(CANNOT_STAND);
            }
        }

        void needSign(char wanted) {
            if (isSign(wanted)) {
                advance();
            } else {
                fail(CANNOT_STAND);
            }
        }

        int needNumber(int least, int most) {
            int read = number;
            if (!isNumber()) {
                fail(CANNOT_STAND);
            } else if (!isWithin(read, least, most)) {
                fail(NOT_AS_TOLD);
            } else {
                advance();
            }
            return read;
        }

        /** The row of the NAME that stands here; it is not passed, as its reader may object. */
        int seeTold(Table table) {
            int row = table.find(name);
            if (!isName()) {
                fail(CANNOT_STAND);
            } else if (row == NONE) {
                fail(NOT_TOLD);
            }
            return row;
        }
    }

    /** Up to 6 things with NAMES, numbered as told, each with a row of facts. */
    private static final class Table {
        private final long[] names = new long[TABLE_MOST];
        private final int[][] facts;
        private int size;

        Table(int columns) {
            facts = new int[Math.max(1, columns)][TABLE_MOST];
        }

        boolean has(int row) {
            return row >= 0 && row < size;
        }

        boolean isFull() {
            return size >= TABLE_MOST;
        }

        int find(long name) {
            for (int row = 0; row < size; row++) {
                if (names[row] == name) {
                    return row;
                }
            }
            return NONE;
        }

        int fact(int column, int row) {
            boolean there = column >= 0 && column < facts.length && row >= 0 && row < size;
            return there ? facts[column][row] : NONE;
        }

        void put(int column, int row, int value) {
            if (column >= 0 && column < facts.length && has(row)) {
                facts[column][row] = value;
            }
        }

        int add(long name) {
            if (isFull()) {
                return NONE;
            }
            names[size] = name;
            size++;
            return size - 1;
        }
    }

    /** A HOUSE as told, and what follows from it alone. */
    private static final class House {
        private final Table rooms = new Table(3);
        private final Table tenants = new Table(7);
        private final Table errands = new Table(3);
        private final Formula due = new Formula(true);
        private final Formula wish = new Formula(false);
        private int coffee = COFFEE_UNTOLD;
        private int lasts = LASTS_UNTOLD;
        private int every = EVERY_UNTOLD;
        private boolean coffeeTold;
        private boolean everyTold;

        /** Reads the TAPE; with a FAULT this one is not to be used. */
        int readFrom(Tape tape) {
            clear();
            tape.rewind();
            for (int lines = 0; lines <= TAPE_MOST && !tape.isOver(); lines++) {
                if (tape.isWord(Word.ROOM)) {
                    readRoom(tape);
                } else if (tape.isWord(Word.TENANT)) {
                    readTenant(tape);
                } else if (tape.isWord(Word.LOVES)) {
                    readLoves(tape);
                } else if (tape.isWord(Word.ERRAND)) {
                    readErrand(tape);
                } else if (tape.isWord(Word.COFFEE)) {
                    readCoffee(tape);
                } else if (tape.isWord(Word.EVERY)) {
                    readEvery(tape);
                } else if (tape.isWord(Word.DUE)) {
                    due.readFrom(tape);
                } else if (tape.isWord(Word.WISH)) {
                    wish.readFrom(tape);
                } else {
                    tape.fail(CANNOT_STAND);
                }
                tape.needSign(';');
            }
            return tape.takeAway();
        }

        private void clear() {
            rooms.size = 0;
            tenants.size = 0;
            errands.size = 0;
            due.told = false;
            wish.told = false;
            coffee = COFFEE_UNTOLD;
            lasts = LASTS_UNTOLD;
            every = EVERY_UNTOLD;
            coffeeTold = false;
            everyTold = false;
        }

        private void readRoom(Tape tape) {
            long name = readNewName(tape, rooms);
            int stairs = readFact(tape, Word.STAIRS, 0, 60);
            int noise = readFact(tape, Word.NOISE, 0, 20);
            int base = readFact(tape, Word.BASE, 0, 999);
            int row = rooms.add(name);
            rooms.put(STAIRS, row, stairs);
            rooms.put(NOISE, row, noise);
            rooms.put(BASE, row, base);
        }

        private void readTenant(Tape tape) {
            long name = readNewName(tape, tenants);
            int kind = readKind(tape);
            int rest = readFact(tape, Word.REST, 40, 99);
            int calm = readFact(tape, Word.CALM, 0, 40);
            int coins = readFact(tape, Word.COINS, 0, 9999);
            int home = readHome(tape);
            int row = tenants.add(name);
            tenants.put(KIND, row, kind);
            tenants.put(REST, row, rest);
            tenants.put(CALM, row, calm);
            tenants.put(COINS, row, coins);
            tenants.put(HOME, row, home);
            tenants.put(LOVES, row, 0);
            tenants.put(HEART, row, kind == SICK ? rest + 20 : rest);
        }

        private void readLoves(Tape tape) {
            tape.advance();
            int lover = tape.seeTold(tenants);
            tape.advance();
            int loved = tape.seeTold(tenants);
            int loves = tenants.fact(LOVES, lover);
            if (lover == loved || (tenants.has(loved) && (loves & 1 << loved) != 0)) {
                tape.fail(TOLD_ALREADY);
            }
            tape.advance();
            if (tenants.has(loved)) {
                tenants.put(LOVES, lover, loves | 1 << loved);
            }
        }

        private void readErrand(Tape tape) {
            long name = readNewName(tape, errands);
            int opens = readFact(tape, Word.OPENS, 0, 99);
            int takes = readFact(tape, Word.TAKES, 1, 20);
            int adds = readFact(tape, Word.ADDS, 0, 60);
            int row = errands.add(name);
            errands.put(OPENS, row, opens);
            errands.put(TAKES, row, takes);
            errands.put(ADDS, row, adds);
        }

        private void readCoffee(Tape tape) {
            if (coffeeTold) {
                tape.fail(TOLD_ALREADY);
            }
            coffeeTold = true;
            coffee = readFact(tape, Word.COFFEE, 0, 60);
            lasts = readFact(tape, Word.LASTS, 1, 120);
        }

        private void readEvery(Tape tape) {
            if (everyTold) {
                tape.fail(TOLD_ALREADY);
            }
            everyTold = true;
            every = readFact(tape, Word.EVERY, 1, 30);
        }

        private static int readFact(Tape tape, Word word, int least, int most) {
            tape.needWord(word);
            return tape.needNumber(least, most);
        }

        private long readNewName(Tape tape, Table table) {
            if (table.isFull()) {
                tape.fail(TOO_MANY);
            }
            tape.advance();
            long name = tape.name;
            if (!tape.isName()) {
                tape.fail(CANNOT_STAND);
            } else if (rooms.find(name) != NONE || tenants.find(name) != NONE
                    || errands.find(name) != NONE) {
                tape.fail(TOLD_ALREADY);
            }
            tape.advance();
            return name;
        }

        private static int readKind(Tape tape) {
            int kind = PLAIN;
            if (tape.isWord(Word.MONK)) {
                kind = MONK;
            } else if (tape.isWord(Word.RUNNER)) {
                kind = RUNNER;
            } else if (tape.isWord(Word.SICK)) {
                kind = SICK;
            } else if (!tape.isWord(Word.PLAIN)) {
                tape.fail(CANNOT_STAND);
            }
            tape.advance();
            return kind;
        }

        private int readHome(Tape tape) {
            if (!tape.isWord(Word.IN)) {
                return NONE;
            }
            tape.advance();
            int room = tape.seeTold(rooms);
            for (int t = 0; t < tenants.size; t++) {
                if (tenants.fact(HOME, t) == room) {
                    tape.fail(TOLD_ALREADY);
                }
            }
            tape.advance();
            return room;
        }

        boolean isCounted(int minute) {
            return every > 0 && minute % every == 0;
        }

        boolean isKind(int tenant, int kind) {
            return tenants.fact(KIND, tenant) == kind;
        }

        /** The beats of one at rest. */
        int restOf(int tenant) {
            return tenants.fact(HEART, tenant);
        }

        /** What STIRS one who climbs so many stairs. */
        int climbing(int tenant, int stairs) {
            return isKind(tenant, RUNNER) ? stairs / 2 : stairs;
        }

        /** What STIRS one who takes a fright. */
        int scare(int tenant, int beats, int habit) {
            int parts = 1 + habit;
            int felt = Math.max(0, beats - tenants.fact(CALM, tenant));
            return parts > 0 ? felt / parts : 0;
        }

        /** What is left a minute later of what STIRS one. */
        int calmed(int tenant, int stir) {
            return isKind(tenant, MONK) ? stir / 4 : stir / 2;
        }

        int dueFor(int beats, int floor, int kind) {
            int value = due.told ? due.value(beats, floor, kind, 0) : beats + floor;
            return Math.max(0, Math.min(DUE_MOST, value));
        }

        int wishFor(int tenant, int room) {
            int steps = rooms.fact(STAIRS, room);
            int loud = rooms.fact(NOISE, room);
            int floor = rooms.fact(BASE, room);
            int kind = tenants.fact(KIND, tenant);
            if (wish.told) {
                return wish.value(steps, loud, floor, kind);
            }
            return 0 - loud * 3 - (kind == RUNNER ? 0 : steps) - floor;
        }

        boolean wouldRather(int tenant, int room, int than) {
            return wishFor(tenant, room) > wishFor(tenant, than);
        }
    }

    /**
     * An E, kept in the order in which it is worked out: a NUMBER as it is, what is below 0
     * being a fact or what joins the values ahead of it.
     */
    private static final class Formula {
        private static final int FACTS_MOST = 4;
        private static final int NOT = -5;
        private static final int AND = -6;
        private static final int OR = -7;
        private static final int LESS = -8;
        private static final int EQUAL = -9;
        private static final int PLUS = -10;
        private static final int MINUS = -11;
        private static final int TIMES = -12;

        private static final int NESTED_MOST = 5;
        /** Within each ( ) at most four values wait, one for each rank of E. */
        private static final int STACK_MOST = 4 * NESTED_MOST + 1;

        private final boolean ofDue;
        private final int[] steps = new int[TAPE_MOST];
        private final int[] facts = new int[FACTS_MOST];
        private final int[] stack = new int[STACK_MOST];
        private int size;
        private boolean told;

        Formula(boolean ofDue) {
            this.ofDue = ofDue;
        }

        void readFrom(Tape tape) {
            if (told) {
                tape.fail(TOLD_ALREADY);
            }
            told = true;
            size = 0;
            tape.advance();
            readE(tape, 0);
        }

        private void readE(Tape tape, int depth) {
            readTest(tape, depth);
            for (int i = 0; i < TAPE_MOST && (tape.isWord(Word.AND) || tape.isWord(Word.OR)); i++) {
                int join = tape.isWord(Word.AND) ? AND : OR;
                tape.advance();
                readTest(tape, depth);
                addStep(join);
            }
        }

        private void readTest(Tape tape, int depth) {
            readSum(tape, depth);
            if (tape.isSign('<') || tape.isSign('=')) {
                int join = tape.isSign('<') ? LESS : EQUAL;
                tape.advance();
                readSum(tape, depth);
                addStep(join);
            }
        }

        private void readSum(Tape tape, int depth) {
            readProduct(tape, depth);
            for (int i = 0; i < TAPE_MOST && (tape.isSign('+') || tape.isSign('-')); i++) {
                int join = tape.isSign('+') ? PLUS : MINUS;
                tape.advance();
                readProduct(tape, depth);
                addStep(join);
            }
        }

        private void readProduct(Tape tape, int depth) {
            readPart(tape, depth);
            for (int i = 0; i < TAPE_MOST && tape.isSign('*'); i++) {
                tape.advance();
                readPart(tape, depth);
                addStep(TIMES);
            }
        }

        private void readPart(Tape tape, int depth) {
            int fact = factOn(tape);
            boolean opens = tape.isSign('(');
            boolean denies = tape.isWord(Word.NOT);
            if (!opens && !denies && fact == NONE && !tape.isNumber()) {
                tape.fail(CANNOT_STAND);
            } else if (depth >= NESTED_MOST) {
                tape.fail(TOO_MANY);
            } else if (opens) {
                tape.advance();
                readE(tape, depth + 1);
                tape.needSign(')');
            } else if (denies) {
                tape.advance();
                readPart(tape, depth + 1);
                addStep(NOT);
            } else {
                addStep(fact == NONE ? tape.number : -1 - fact);
                tape.advance();
            }
        }

        /** Which fact the token is: the place of its value among those handed to value. */
        private int factOn(Tape tape) {
            if (tape.isWord(ofDue ? Word.BEATS : Word.STEPS)) {
                return 0;
            }
            if (tape.isWord(ofDue ? Word.FLOOR : Word.LOUD)) {
                return 1;
            }
            if (tape.isWord(ofDue ? Word.KIND : Word.FLOOR)) {
                return 2;
            }
            return !ofDue && tape.isWord(Word.KIND) ? 3 : NONE;
        }

        private void addStep(int step) {
            if (size < steps.length) {
                steps[size] = step;
                size++;
            }
        }

        int value(int first, int second, int third, int fourth) {
            facts[0] = first;
            facts[1] = second;
            facts[2] = third;
            facts[3] = fourth;
            int top = 0;
            for (int i = 0; i < size; i++) {
                int step = steps[i];
                if (step == NOT && top >= 1) {
                    stack[top - 1] = stack[top - 1] == 0 ? 1 : 0;
                } else if (step < NOT && top >= 2) {
                    top--;
                    stack[top - 1] = joined(step, stack[top - 1], stack[top]);
                } else if (step > NOT && top < STACK_MOST) {
                    stack[top] = step >= 0 ? step : facts[-1 - step];
                    top++;
                }
            }
            return top > 0 ? stack[0] : 0;
        }

        private static int joined(int step, int left, int right) {
            switch (step) {
                case AND: return left != 0 && right != 0 ? 1 : 0;
                case OR: return left != 0 || right != 0 ? 1 : 0;
                case LESS: return left < right ? 1 : 0;
                case EQUAL: return left == right ? 1 : 0;
                case PLUS: return left + right;
                case MINUS: return left - right;
                default: return left * right;
            }
        }
    }

    /** MONTHS told, a deed a line. */
    private static final class Months {
        private static final int CLIMB = 0;
        private static final int FRIGHT = 1;
        private static final int DRINK = 2;
        private static final int MINUTES = 3;
        private static final int NOON = 4;
        private static final int MOVE = 5;

        private final int[] deeds = new int[LINES_MOST];
        private final int[] tenants = new int[LINES_MOST];
        private final int[] values = new int[LINES_MOST];
        private int size;

        /** Reads the TAPE; with a FAULT this one is not to be used. */
        int readFrom(Tape tape, House house) {
            size = 0;
            tape.rewind();
            for (int lines = 0; lines <= TAPE_MOST && !tape.isOver(); lines++) {
                int deed = deedOn(tape);
                if (deed == NONE) {
                    tape.fail(CANNOT_STAND);
                } else if (size >= LINES_MOST) {
                    tape.fail(TOO_MANY);
                } else {
                    tape.advance();
                    readLine(tape, house, deed);
                }
            }
            return tape.takeAway();
        }

        private static int deedOn(Tape tape) {
            if (tape.isWord(Word.CLIMB)) {
                return CLIMB;
            }
            if (tape.isWord(Word.FRIGHT)) {
                return FRIGHT;
            }
            if (tape.isWord(Word.DRINK)) {
                return DRINK;
            }
            if (tape.isWord(Word.MINUTES)) {
                return MINUTES;
            }
            if (tape.isWord(Word.NOON)) {
                return NOON;
            }
            return tape.isWord(Word.MOVE) ? MOVE : NONE;
        }

        private void readLine(Tape tape, House house, int deed) {
            int tenant = NONE;
            int value = 0;
            if (deed != MINUTES && deed != NOON) {
                tenant = tape.seeTold(house.tenants);
                tape.advance();
            }
            if (deed == FRIGHT) {
                value = tape.needNumber(1, FRIGHT_MOST);
            } else if (deed == MINUTES) {
                value = tape.needNumber(1, PASSED_MOST);
            } else if (deed == MOVE) {
                value = tape.seeTold(house.rooms);
                tape.advance();
            }
            tape.needSign(';');
            if (size < LINES_MOST) {
                deeds[size] = deed;
                tenants[size] = tenant;
                values[size] = value;
                size++;
            }
        }
    }

    /** All that changes minute by minute, of the HOUSE that it is handed each time. */
    private static final class State {
        private int minute;
        /** TENANTS as bits. */
        private int evicted;
        /** Here and not only in the HOUSE, so that LAW can try another number. */
        private int coffeeBeats;
        private final int[] where = new int[TABLE_MOST];
        private final int[] stir = new int[TABLE_MOST];
        private final int[] coffee = new int[TABLE_MOST];
        private final int[] habit = new int[TABLE_MOST];
        private final int[] counted = new int[TABLE_MOST];
        private final int[] coins = new int[TABLE_MOST];
        /** The steady beats of who is in; found anew whenever minutes pass, so never copied. */
        private final int[] steady = new int[TABLE_MOST];

        State() {
            Arrays.fill(where, NONE);
        }

        void begin(House house) {
            minute = 0;
            evicted = 0;
            coffeeBeats = house.coffee;
            Arrays.fill(stir, 0);
            Arrays.fill(coffee, 0);
            Arrays.fill(habit, 0);
            Arrays.fill(counted, 0);
            for (int t = 0; t < TABLE_MOST; t++) {
                boolean told = house.tenants.has(t);
                where[t] = told ? house.tenants.fact(HOME, t) : NONE;
                coins[t] = told ? house.tenants.fact(COINS, t) : 0;
            }
        }

        void copyFrom(State other) {
            minute = other.minute;
            evicted = other.evicted;
            coffeeBeats = other.coffeeBeats;
            System.arraycopy(other.where, 0, where, 0, TABLE_MOST);
            System.arraycopy(other.stir, 0, stir, 0, TABLE_MOST);
            System.arraycopy(other.coffee, 0, coffee, 0, TABLE_MOST);
            System.arraycopy(other.habit, 0, habit, 0, TABLE_MOST);
            System.arraycopy(other.counted, 0, counted, 0, TABLE_MOST);
            System.arraycopy(other.coins, 0, coins, 0, TABLE_MOST);
        }

        /** False, too, for what is no TENANT. */
        boolean isIn(int tenant) {
            return tenant >= 0 && tenant < TABLE_MOST && where[tenant] != NONE;
        }

        boolean isEvicted(int tenant) {
            return isWithin(tenant, 0, TABLE_MOST - 1) && (evicted & 1 << tenant) != 0;
        }

        int inBits() {
            int bits = 0;
            for (int t = 0; t < TABLE_MOST; t++) {
                bits |= where[t] != NONE ? 1 << t : 0;
            }
            return bits;
        }

        int whoIsIn(int room) {
            for (int t = 0; t < TABLE_MOST; t++) {
                if (where[t] != NONE && where[t] == room) {
                    return t;
                }
            }
            return NONE;
        }

        int coinsOfAll() {
            int all = 0;
            for (int t = 0; t < TABLE_MOST; t++) {
                all += coins[t];
            }
            return all;
        }

        int factOf(int tenant, int what) {
            if (!isWithin(tenant, 0, TABLE_MOST - 1)) {
                return NONE;
            }
            switch (what) {
                case 3: return coins[tenant];
                case 4: return where[tenant];
                case 5: return stir[tenant];
                case 6: return coffee[tenant];
                case 7: return habit[tenant];
                case 8: return counted[tenant];
                case 9: return isEvicted(tenant) ? 1 : 0;
                default: return NONE;
            }
        }

        int pulseOf(House house, int tenant) {
            if (!isIn(tenant)) {
                return NONE;
            }
            return pulseBy(steadyBeats(house, tenant), stir[tenant], coffee[tenant] > 0);
        }

        private int pulseBy(int steadily, int stirred, boolean hasCoffee) {
            return Math.min(PULSE_MOST, steadily + stirred + (hasCoffee ? coffeeBeats : 0));
        }

        /** What of a PULSE stays alike from minute to minute while nobody comes or goes. */
        private int steadyBeats(House house, int tenant) {
            int loves = house.tenants.fact(LOVES, tenant);
            int joy = loves != 0 && (loves & inBits()) != 0 ? 8 : 0;
            return house.restOf(tenant) + joy + house.rooms.fact(NOISE, where[tenant]);
        }

        boolean doClimb(House house, int tenant) {
            if (!isIn(tenant)) {
                return false;
            }
            stir[tenant] += house.climbing(tenant, house.rooms.fact(STAIRS, where[tenant]));
            return true;
        }

        boolean doFright(House house, int tenant, int beats) {
            if (!isIn(tenant)) {
                return false;
            }
            stir[tenant] += house.scare(tenant, beats, habit[tenant]);
            habit[tenant]++;
            return true;
        }

        boolean doDrink(House house, int tenant) {
            if (!isIn(tenant)) {
                return false;
            }
            coffee[tenant] = house.lasts;
            return true;
        }

        boolean canMove(House house, int tenant, int room) {
            return house.tenants.has(tenant) && house.rooms.has(room)
                    && !isEvicted(tenant) && whoIsIn(room) == NONE;
        }

        boolean doMove(House house, int tenant, int room) {
            if (!canMove(house, tenant, room)) {
                return false;
            }
            where[tenant] = room;
            return true;
        }

        /** Lets minutes pass: how many beats are counted of all in them. */
        int passMinutes(House house, int many) {
            for (int t = 0; t < TABLE_MOST; t++) {
                steady[t] = isIn(t) ? steadyBeats(house, t) : 0;
            }
            int beats = 0;
            for (int i = 0; i < many; i++) {
                if (house.isCounted(minute)) {
                    beats += countBeats(house.every);
                }
                calmDown(house);
                minute++;
            }
            return beats;
        }

        private int countBeats(int times) {
            int beats = 0;
            for (int t = 0; t < TABLE_MOST; t++) {
                if (where[t] != NONE) {
                    int more = pulseBy(steady[t], stir[t], coffee[t] > 0) * times;
                    counted[t] += more;
                    beats += more;
                }
            }
            return beats;
        }

        private void calmDown(House house) {
            for (int t = 0; t < TABLE_MOST; t++) {
                if (stir[t] > 0) {
                    stir[t] = house.calmed(t, stir[t]);
                }
                if (coffee[t] > 0) {
                    coffee[t]--;
                }
            }
        }

        int dueOf(House house, int tenant) {
            if (!isIn(tenant)) {
                return NONE;
            }
            int floor = house.rooms.fact(BASE, where[tenant]);
            return house.dueFor(counted[tenant], floor, house.tenants.fact(KIND, tenant));
        }

        /** What all pay together. */
        int holdNoon(House house) {
            int paid = 0;
            for (int t = 0; t < TABLE_MOST; t++) {
                if (isIn(t)) {
                    int due = dueOf(house, t);
                    int credit = house.isKind(t, SICK) ? CREDIT_MOST : 0;
                    if (due - coins[t] <= credit) {
                        int pays = Math.min(due, coins[t]);
                        coins[t] -= pays;
                        paid += pays;
                    } else {
                        where[t] = NONE;
                        evicted |= 1 << t;
                    }
                }
            }
            Arrays.fill(counted, 0);
            return paid;
        }

        /** Does a line of MONTHS, if it can be. */
        boolean perform(House house, Months months, int line) {
            if (line < 0 || line >= months.size) {
                return false;
            }
            int tenant = months.tenants[line];
            int value = months.values[line];
            switch (months.deeds[line]) {
                case Months.CLIMB: return doClimb(house, tenant);
                case Months.FRIGHT: return doFright(house, tenant, value);
                case Months.DRINK: return doDrink(house, tenant);
                case Months.MOVE: return doMove(house, tenant, value);
                case Months.MINUTES: passMinutes(house, value); return true;
                default: holdNoon(house); return true;
            }
        }

        /** What would be counted of one in the next minutes, frightened ahead of those in bits. */
        int haunted(House house, int tenant, int beats, int bits) {
            if (!isIn(tenant)) {
                return NONE;
            }
            int steadily = steadyBeats(house, tenant);
            int felt = stir[tenant];
            int frights = habit[tenant];
            int all = 0;
            for (int i = 0; i < HAUNT_MINUTES; i++) {
                if ((bits >> i & 1) != 0) {
                    felt += house.scare(tenant, beats, frights);
                    frights++;
                }
                if (house.isCounted(minute + i)) {
                    all += pulseBy(steadily, felt, coffee[tenant] > i) * house.every;
                }
                felt = house.calmed(tenant, felt);
            }
            return all;
        }

        int savedBy(House house, int tenant, int other) {
            if (!isIn(tenant) || !isIn(other)) {
                return 0;
            }
            int floor = Math.min(house.rooms.fact(BASE, where[tenant]),
                    house.rooms.fact(BASE, where[other]));
            int together = house.dueFor(counted[tenant] + counted[other], floor,
                    house.tenants.fact(KIND, tenant));
            return dueOf(house, tenant) + dueOf(house, other) - together;
        }

        /** Each who is in does what is drawn: the last number of the row of draws. */
        long drawDeeds(House house, long seed) {
            long drawn = seed;
            for (int t = 0; t < TABLE_MOST; t++) {
                if (isIn(t)) {
                    drawn = (drawn * 1103515245L + 12345L) % 2147483648L;
                    int draw = (int) (drawn / 65536L % 6L);
                    if (draw == 0) {
                        doClimb(house, t);
                    } else if (draw == 1) {
                        doFright(house, t, 30);
                    } else if (draw == 2) {
                        doDrink(house, t);
                    }
                }
            }
            return drawn;
        }
    }

    /** SAMPLES; two may tell of one minute. */
    private static final class Samples {
        private final int[] minutes = new int[SAMPLES_MOST];
        private final int[] beats = new int[SAMPLES_MOST];
        private int size;

        boolean add(int minute, int counted) {
            if (size >= SAMPLES_MOST) {
                return false;
            }
            minutes[size] = minute;
            beats[size] = counted;
            size++;
            return true;
        }

        void copyFrom(Samples other) {
            size = other.size;
            System.arraycopy(other.minutes, 0, minutes, 0, SAMPLES_MOST);
            System.arraycopy(other.beats, 0, beats, 0, SAMPLES_MOST);
        }

        boolean allow(int minute, int counted) {
            for (int i = 0; i < size; i++) {
                if (minutes[i] == minute && beats[i] != counted) {
                    return false;
                }
            }
            return true;
        }
    }

    /** The order of errands with the fewest beats. */
    private static final class Route {
        private House house;
        private int tenant;
        private int best;
        private final int[] bestOrder = new int[TABLE_MOST];
        private final int[] order = new int[TABLE_MOST];
        /** The minute, what STIRS and the beats ahead of each errand of the order. */
        private final int[] minuteAt = new int[TABLE_MOST + 1];
        private final int[] stirAt = new int[TABLE_MOST + 1];
        private final int[] beatsAt = new int[TABLE_MOST + 1];

        void find(House ofHouse, int ofTenant) {
            house = ofHouse;
            tenant = ofTenant;
            best = Integer.MAX_VALUE;
            extend(0, 0);
        }

        int stop(int i) {
            return i >= 0 && i < TABLE_MOST ? bestOrder[i] : NONE;
        }

        private void extend(int depth, int used) {
            int many = house == null ? 0 : house.errands.size;
            if (depth >= many || depth >= TABLE_MOST) {
                best = beatsAt[depth];
                System.arraycopy(order, 0, bestOrder, 0, TABLE_MOST);
                return;
            }
            for (int errand = 0; errand < many; errand++) {
                if ((used >> errand & 1) == 0) {
                    goOn(depth, used, errand);
                }
            }
        }

        private void goOn(int depth, int used, int errand) {
            order[depth] = errand;
            walk(depth, errand);
            // beats never fall, and of equal orders the first one stays
            if (beatsAt[depth + 1] < best) {
                extend(depth + 1, used | 1 << errand);
            }
        }

        private void walk(int depth, int errand) {
            int adds = house.errands.fact(ADDS, errand);
            int begin = Math.max(minuteAt[depth], house.errands.fact(OPENS, errand));
            int end = begin + house.errands.fact(TAKES, errand);
            int rest = house.restOf(tenant);
            int stir = stirAt[depth];
            int beats = beatsAt[depth];
            for (int minute = minuteAt[depth]; minute < end; minute++) {
                beats += rest + stir + (minute >= begin ? adds : 0);
                stir = house.calmed(tenant, stir);
            }
            minuteAt[depth + 1] = end;
            stirAt[depth + 1] = Math.max(stir, adds);
            beatsAt[depth + 1] = beats;
        }
    }

    /** Who has which ROOM, so that no two would change. */
    private static final class Matching {
        private final int[] roomOf = new int[TABLE_MOST];

        /**
         * All ROOMS keep by one and the same order of TENANTS, so asking comes to this: in that
         * order, each has the best ROOM that is left.
         */
        void settle(House house, int evicted) {
            Arrays.fill(roomOf, NONE);
            int placed = evicted;
            int taken = 0;
            for (int turn = 0; turn < TABLE_MOST; turn++) {
                int tenant = mostRested(house, placed);
                int room = tenant == NONE ? NONE : bestLeft(house, tenant, taken);
                if (room != NONE) {
                    roomOf[tenant] = room;
                    placed |= 1 << tenant;
                    taken |= 1 << room;
                }
            }
        }

        int roomFor(int tenant) {
            return tenant >= 0 && tenant < TABLE_MOST ? roomOf[tenant] : NONE;
        }

        private static int mostRested(House house, int placed) {
            int most = NONE;
            for (int t = 0; t < house.tenants.size; t++) {
                boolean better = most == NONE
                        || house.tenants.fact(REST, t) > house.tenants.fact(REST, most);
                if ((placed >> t & 1) == 0 && better) {
                    most = t;
                }
            }
            return most;
        }

        private static int bestLeft(House house, int tenant, int taken) {
            int best = NONE;
            for (int r = 0; r < house.rooms.size; r++) {
                if ((taken >> r & 1) == 0 && (best == NONE || house.wouldRather(tenant, r, best))) {
                    best = r;
                }
            }
            return best;
        }
    }

    /** The DAYS by which all SAMPLES are so. */
    private static final class Days {
        private static final int STAIRS_CLIMBED = 20;
        private static final int FRIGHT_TAKEN = 40;

        private House house;
        private int tenant;
        private Samples samples;
        private int many;
        private final int[] firstDay = new int[DAY_MINUTES];
        private final int[] deeds = new int[DAY_MINUTES];
        private final int[] beats = new int[DAY_MINUTES];
        /** Of each minute, how many DAYS have so many beats in it. */
        private final int[][] alike = new int[DAY_MINUTES][PULSE_MOST + 1];

        void find(House ofHouse, int ofTenant, Samples by) {
            house = ofHouse;
            tenant = ofTenant;
            samples = by;
            many = 0;
            for (int minute = 0; minute < DAY_MINUTES; minute++) {
                Arrays.fill(alike[minute], 0);
            }
            live(0, 0, 0);
        }

        private void live(int minute, int stir, int habit) {
            if (house == null || samples == null) {
                return;
            }
            if (minute >= DAY_MINUTES) {
                keepDay();
                return;
            }
            int climbed = stir + house.climbing(tenant, STAIRS_CLIMBED);
            int frightened = stir + house.scare(tenant, FRIGHT_TAKEN, habit);
            liveBy(0, minute, stir, habit);
            liveBy(1, minute, climbed, habit);
            liveBy(2, minute, frightened, habit + 1);
        }

        private void liveBy(int deed, int minute, int stir, int habit) {
            deeds[minute] = deed;
            beats[minute] = Math.min(PULSE_MOST, house.restOf(tenant) + stir);
            if (samples.allow(minute, beats[minute])) {
                live(minute + 1, house.calmed(tenant, stir), habit);
            }
        }

        private void keepDay() {
            if (many == 0) {
                System.arraycopy(deeds, 0, firstDay, 0, DAY_MINUTES);
            }
            many++;
            for (int minute = 0; minute < DAY_MINUTES; minute++) {
                if (isWithin(beats[minute], 0, PULSE_MOST)) {
                    alike[minute][beats[minute]]++;
                }
            }
        }

        /** The minute whose count leaves the fewest DAYS at worst; NONE if it leaves them all. */
        int bestMinute() {
            int best = NONE;
            int least = many;
            for (int minute = 0; minute < DAY_MINUTES; minute++) {
                int most = 0;
                for (int i = 0; i <= PULSE_MOST; i++) {
                    most = Math.max(most, alike[minute][i]);
                }
                if (most < least) {
                    least = most;
                    best = minute;
                }
            }
            return best;
        }
    }
}
