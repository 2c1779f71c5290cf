import java.util.Arrays;

/**
 * A house that hires out lantern lectures. The words in capitals are those of the document
 * (../shared/DOC.md, "Terms"); every row is made in a constructor and used again by all calls.
 */
public final class LanternHouse {
    public static final int NONE = -1;

    private static final int CAN_NOT_BE_KEPT = -2;
    private static final int NOTHING_CAME = -2;
    private static final int SEVERAL_CAME = -3;
    private static final int LAST_HOUR = 700;
    private static final int LAST_DAY = 40;
    private static final int MOST_CLEANING = 24;
    private static final int BYTES_A_FEED = 20;

    private final Tape tape;
    private final Tokens tokens;
    private final Reader reader;
    private final Rails rails;
    private final Stock stock;
    private final Facts facts;
    private final Shows shows;
    private final Keeper keeper;
    private final Showing lastShowing;
    private Lectures draft;
    private Plan made;
    private Plan trial;
    private boolean isMade;

    public LanternHouse() {
        tape = new Tape();
        tokens = new Tokens();
        reader = new Reader(tokens);
        rails = new Rails();
        stock = new Stock();
        facts = new Facts();
        shows = new Shows(new Lectures());
        keeper = new Keeper(shows, stock, facts, rails);
        lastShowing = new Showing();
        draft = new Lectures();
        made = new Plan();
        trial = new Plan();
        isMade = false;
    }

    public int feed(int a, int b, int c, int d, int e) {
        if (tape.length > Tape.MOST - BYTES_A_FEED) {
            return NONE;
        }
        tape.put(a);
        tape.put(b);
        tape.put(c);
        tape.put(d);
        tape.put(e);
        return tape.length;
    }

    public int back(int n) {
        if (n < 0 || n > tape.length) {
            return NONE;
        }
        tape.length -= n;
        return tape.length;
    }

    public int read() {
        tokens.scan(tape);
        tape.length = 0;
        reader.parse(draft);
        if (reader.fault == 0) {
            Lectures before = shows.text;
            shows.startOver(draft);
            draft = before;
            isMade = false;
        }
        return reader.fault;
    }

    public int place() {
        return reader.faultPlace;
    }

    public int hall() {
        return rails.addHall();
    }

    public int train(int from, int to, int hour, int takes) {
        return rails.addTrain(from, to, hour, takes);
    }

    public int plate(int kind) {
        return stock.add(kind);
    }

    public boolean cleaning(int h) {
        if (h < 0 || h > MOST_CLEANING) {
            return false;
        }
        keeper.cleaningHours = h;
        return true;
    }

    public int cancel(int train, int day) {
        if (train < 0 || train >= rails.trains || day < 0 || day > LAST_DAY) {
            return NONE;
        }
        return facts.add(Facts.IDLE, train, day);
    }

    public int look(int plate, int hour, boolean whole) {
        if (!isPlate(plate) || !isHour(hour)) {
            return NONE;
        }
        return facts.add(whole ? Facts.WHOLE : Facts.BROKEN, plate, hour);
    }

    public int show(int night, int hall, int lecture, int gas, int worth) {
        if (!rails.isHall(hall)) {
            return NONE;
        }
        return shows.add(night, hall, lecture, gas, worth);
    }

    public int way(int from, int to, int hour, int n) {
        if (!rails.isHall(from) || !rails.isHall(to) || !isHour(hour) || !facts.isKnown(n)) {
            return NONE;
        }
        rails.learn(facts, n);
        return rails.soonest(from, to, hour);
    }

    public int broken(int plate, int hour, int n) {
        if (!isPlate(plate) || !isHour(hour) || !facts.isKnown(n)) {
            return NONE;
        }
        return facts.brokenPlates(hour, n) >> plate & 1;
    }

    public int can(int set, int n) {
        if (set < 0 || set > shows.all() || !facts.isKnown(n)) {
            return NONE;
        }
        keeper.prepare(n);
        return keeper.keep(set, trial) ? trial.worth : CAN_NOT_BE_KEPT;
    }

    public int make(int n) {
        if (!facts.isKnown(n)) {
            return NONE;
        }
        settle(n, NONE);
        isMade = true;
        return made.worth;
    }

    public int mend(int n) {
        if (!isMade || !facts.isKnown(n)) {
            return NONE;
        }
        settle(n, made.set);
        return made.changes;
    }

    public int told(int show, int what) {
        if (!shows.isShow(show)) {
            return NONE;
        }
        switch (what) {
            case 0: return shows.nights[show];
            case 1: return shows.halls[show];
            case 2: return shows.lectures[show];
            case 3: return shows.gas[show];
            case 4: return shows.worths[show];
            case 5: return isKept(show) ? 1 : 0;
            default: return NONE;
        }
    }

    public int cue(int show, int i, int what) {
        if (!isKept(show) || i < 0 || i >= shows.cuesOf(show)) {
            return NONE;
        }
        int slot = Plan.slot(show, i);
        int plate = made.plates[slot];
        lastShowing.goThrough(show, shows, made);
        switch (what) {
            case 0: return plate;
            case 1: return stock.kindOf(plate);
            case 2: return lastShowing.begins[i];
            case 3: return lastShowing.isShown[i] ? 1 : 0;
            case 4: return made.standIns[slot] ? 1 : 0;
            default: return NONE;
        }
    }

    public int showing(int show, int what) {
        if (!isKept(show)) {
            return NONE;
        }
        lastShowing.goThrough(show, shows, made);
        switch (what) {
            case 0: return lastShowing.shown;
            case 1: return lastShowing.missed;
            case 2: return lastShowing.instead;
            case 3: return lastShowing.minutes;
            case 4: return lastShowing.gas;
            case 5: return lastShowing.hire;
            case 6: return lastShowing.firstDark;
            case 7: return lastShowing.hireNumber;
            default: return NONE;
        }
    }

    public int blame(int plate, int n) {
        if (!isMade || !isPlate(plate) || !facts.isKnown(n)) {
            return NONE;
        }
        int look = facts.firstBroken(plate, n);
        if (look == NONE) {
            return NONE;
        }
        return made.whatCame(plate, facts.lastWhole(look, n), facts.times[look], shows);
    }

    public int where(int plate, int hour) {
        if (!isMade || !isPlate(plate) || !isHour(hour)) {
            return NONE;
        }
        return made.sentTo(plate, hour, shows);
    }

    public int count(int what) {
        switch (what) {
            case 0: return rails.halls;
            case 1: return rails.trains;
            case 2: return stock.size;
            case 3: return facts.size;
            case 4: return shows.text.size;
            case 5: return shows.size;
            case 6: return isMade ? Integer.bitCount(made.set) : NONE;
            case 7: return isMade ? made.missed : NONE;
            case 8: return isMade ? made.instead : NONE;
            case 9: return tape.length;
            default: return NONE;
        }
    }

    private boolean isPlate(int plate) {
        return plate >= 0 && plate < stock.size;
    }

    private boolean isHour(int hour) {
        return hour >= 0 && hour <= LAST_HOUR;
    }

    private boolean isKept(int show) {
        return isMade && shows.isShow(show) && made.has(show);
    }

    /**
     * Puts the best set in place of what is MADE; near is the set that MENDING stays close to,
     * NONE for MAKING. The empty set can always be KEPT, so there is a best one.
     */
    private void settle(int n, int near) {
        keeper.prepare(n);
        keeper.keep(0, made);
        made.changes = changes(0, near);
        for (int set = 1; set <= shows.all(); set++) {
            // WORTH comes first: of a set that has less, nothing else need be known.
            if (shows.worthOf(set) < made.worth || !keeper.keep(set, trial)) {
                continue;
            }
            trial.changes = changes(set, near);
            if (trial.isBetterThan(made)) {
                Plan worse = made;
                made = trial;
                trial = worse;
            }
        }
    }

    private static int changes(int set, int near) {
        return near == NONE ? 0 : Integer.bitCount(set ^ near);
    }

    /** The bytes that wait to be read. */
    static final class Tape {
        static final int MOST = 3000;

        final byte[] bytes = new byte[MOST];
        int length = 0;

        void put(int word) {
            for (int shift = 24; shift >= 0 && length < MOST; shift -= 8) {
                bytes[length] = (byte) (word >> shift);
                length++;
            }
        }

        int at(int index) {
            return index >= 0 && index < length ? bytes[index] & 255 : NONE;
        }

        boolean spells(int from, int to, String word) {
            if (to - from != word.length()) {
                return false;
            }
            for (int i = 0; i < word.length(); i++) {
                if (at(from + i) != word.charAt(i)) {
                    return false;
                }
            }
            return true;
        }
    }

    /**
     * The TOKENS of a text, up to what is none or the text's end; one more than there may be, as
     * that one is what ROOM is told of.
     */
    static final class Tokens {
        static final int MOST = 600;
        static final int MOST_LETTERS = 8;
        static final int MOST_DIGITS = 4;

        static final int TEXT_END = 1;
        static final int NO_TOKEN = 2;
        static final int NAME = 3;
        static final int INT = 4;
        static final int LECTURE = 5;
        static final int END = 6;
        static final int MUST = 7;
        static final int MAY = 8;
        static final int OR = 9;
        static final int FOR = 10;
        static final int FADE = 11;
        static final int HIRE = 12;
        static final int IF = 13;
        static final int AND = 14;
        static final int SHOWN = 15;
        static final int MISSED = 16;
        static final int INSTEAD = 17;
        static final int MINUTES = 18;
        static final int GAS = 19;
        static final int WORTH = 20;
        static final int SEMICOLON = 21;
        static final int OPEN = 22;
        static final int CLOSE = 23;
        static final int PLUS = 24;
        static final int MINUS = 25;
        static final int TIMES = 26;
        static final int EQUAL = 27;
        static final int UNEQUAL = 28;
        static final int LESS = 29;
        static final int AT_MOST = 30;

        final int[] sorts = new int[MOST + 1];
        final int[] places = new int[MOST + 1];
        /** An INT's number; the letters of a NAME, packed so that two NAMES differ if their numbers do. */
        final long[] values = new long[MOST + 1];

        void scan(Tape tape) {
            int from = 0;
            for (int i = 0; i <= MOST; i++) {
                from = pastBlanks(tape, from);
                int to = endOf(tape, from);
                places[i] = from;
                sorts[i] = sortOf(tape, from, to);
                values[i] = valueOf(tape, from, to);
                if (sorts[i] == TEXT_END || sorts[i] == NO_TOKEN) {
                    return;
                }
                from = to;
            }
        }

        static boolean isVar(int sort) {
            return sort >= SHOWN && sort <= WORTH;
        }

        static boolean isOperator(int sort) {
            return sort >= PLUS && sort <= TIMES;
        }

        static boolean isRelation(int sort) {
            return sort >= EQUAL && sort <= AT_MOST;
        }

        private static boolean isBlank(int c) {
            return c == 9 || c == 10 || c == 13 || c == 32;
        }

        private static boolean isLetter(int c) {
            return c >= 'a' && c <= 'z';
        }

        private static boolean isDigit(int c) {
            return c >= '0' && c <= '9';
        }

        private static int pastBlanks(Tape tape, int from) {
            int to = from;
            while (to < tape.length && isBlank(tape.at(to))) {
                to++;
            }
            return to;
        }

        private static int endOf(Tape tape, int from) {
            int first = tape.at(from);
            int to = from + 1;
            if (isLetter(first)) {
                while (to < tape.length && isLetter(tape.at(to))) {
                    to++;
                }
            } else if (isDigit(first)) {
                while (to < tape.length && isDigit(tape.at(to))) {
                    to++;
                }
            } else if ((first == '=' || first == '!' || first == '<') && tape.at(to) == '=') {
                to++;
            }
            return to;
        }

        private static int sortOf(Tape tape, int from, int to) {
            int first = tape.at(from);
            if (first == NONE) {
                return TEXT_END;
            }
            if (isLetter(first)) {
                return to - from > MOST_LETTERS ? NO_TOKEN : wordSort(tape, from, to);
            }
            if (isDigit(first)) {
                return to - from > MOST_DIGITS ? NO_TOKEN : INT;
            }
            return signSort(first, to - from == 2);
        }

        private static int signSort(int first, boolean isDouble) {
            switch (first) {
                case ';': return SEMICOLON;
                case '(': return OPEN;
                case ')': return CLOSE;
                case '+': return PLUS;
                case '-': return MINUS;
                case '*': return TIMES;
                case '=': return isDouble ? EQUAL : NO_TOKEN;
                case '!': return isDouble ? UNEQUAL : NO_TOKEN;
                case '<': return isDouble ? AT_MOST : LESS;
                default: return NO_TOKEN;
            }
        }

        private static int wordSort(Tape tape, int from, int to) {
            if (tape.spells(from, to, "lecture")) { return LECTURE; }
            if (tape.spells(from, to, "end")) { return END; }
            if (tape.spells(from, to, "must")) { return MUST; }
            if (tape.spells(from, to, "may")) { return MAY; }
            if (tape.spells(from, to, "or")) { return OR; }
            if (tape.spells(from, to, "for")) { return FOR; }
            if (tape.spells(from, to, "fade")) { return FADE; }
            if (tape.spells(from, to, "hire")) { return HIRE; }
            if (tape.spells(from, to, "if")) { return IF; }
            if (tape.spells(from, to, "and")) { return AND; }
            if (tape.spells(from, to, "shown")) { return SHOWN; }
            if (tape.spells(from, to, "missed")) { return MISSED; }
            if (tape.spells(from, to, "instead")) { return INSTEAD; }
            if (tape.spells(from, to, "minutes")) { return MINUTES; }
            if (tape.spells(from, to, "gas")) { return GAS; }
            if (tape.spells(from, to, "worth")) { return WORTH; }
            return NAME;
        }

        private static long valueOf(Tape tape, int from, int to) {
            long value = 0;
            for (int i = from; i < to; i++) {
                int c = tape.at(i);
                if (isDigit(c)) {
                    value = value * 10 + (c - '0');
                } else if (isLetter(c)) {
                    value = value * 32 + (c - 'a' + 1);
                }
            }
            return value;
        }
    }

    /** What a text without a FAULT tells. */
    static final class Lectures {
        static final int MOST = 6;
        static final int MOST_CUES = 8;
        static final int MOST_HIRES = 4;
        static final int MOST_KINDS = 3;

        final long[] names = new long[MOST];
        final int[] cueCounts = new int[MOST];
        final int[] hireCounts = new int[MOST];
        final boolean[] musts = new boolean[MOST * MOST_CUES];
        final int[] kindCounts = new int[MOST * MOST_CUES];
        final int[] kinds = new int[MOST * MOST_CUES * MOST_KINDS];
        final int[] minutes = new int[MOST * MOST_CUES];
        final int[] fades = new int[MOST * MOST_CUES];
        final int[] hireStarts = new int[MOST * MOST_HIRES];
        final int[] hireEnds = new int[MOST * MOST_HIRES];
        /** HIRES with each sign behind its two sides: an INT as it is, the sort of another TOKEN below 0. */
        final int[] code = new int[Tokens.MOST];
        int codeSize = 0;
        int size = 0;

        void clear() {
            size = 0;
            codeSize = 0;
        }

        void begin(long name) {
            if (size < MOST) {
                names[size] = name;
                cueCounts[size] = 0;
                hireCounts[size] = 0;
                size++;
            }
        }

        boolean hasName(long name) {
            for (int i = 0; i < size; i++) {
                if (names[i] == name) {
                    return true;
                }
            }
            return false;
        }

        boolean hasKind(int cue, int kind) {
            for (int i = 0; i < kindCounts[cue]; i++) {
                if (kinds[cue * MOST_KINDS + i] == kind) {
                    return true;
                }
            }
            return false;
        }

        void addKind(int cue, int kind) {
            if (kindCounts[cue] < MOST_KINDS) {
                kinds[cue * MOST_KINDS + kindCounts[cue]] = kind;
                kindCounts[cue]++;
            }
        }

        void emit(int step) {
            if (codeSize < code.length) {
                code[codeSize] = step;
                codeSize++;
            }
        }
    }

    /**
     * Goes through the TOKENS by the grammar. Each of its methods that answers a boolean answers
     * false as soon as SYNTAX or ROOM is found, and nothing is read behind that. TWICE and WRONG
     * are only noted, since a SYNTAX or ROOM further on goes ahead of them.
     */
    static final class Reader {
        static final int SYNTAX = 1;
        static final int ROOM = 2;
        static final int TWICE = 3;
        static final int WRONG = 5;
        static final int MOST_MINUTES = 30;
        static final int MOST_OPEN = 6;
        /** Of each depth a + or -, a * and the ( that leads deeper. */
        static final int MOST_WAITING = 3 * (MOST_OPEN + 1);

        final Tokens tokens;
        final int[] waiting = new int[MOST_WAITING];
        int waitingCount = 0;
        Lectures text;
        int at = 0;
        long value = 0;
        int valuePlace = NONE;
        int fault = 0;
        int faultPlace = NONE;
        int noted = 0;
        int notedPlace = NONE;

        Reader(Tokens tokens) {
            this.tokens = tokens;
        }

        void parse(Lectures draft) {
            begin(draft);
            boolean goesOn = true;
            for (int i = 0; i <= Lectures.MOST && goesOn && tokens.sorts[at] == Tokens.LECTURE; i++) {
                goesOn = i < Lectures.MOST ? readLecture(i) : fails(ROOM);
            }
            if (goesOn && tokens.sorts[at] != Tokens.TEXT_END) {
                goesOn = fails(SYNTAX);
            }
            if (goesOn) {
                fault = noted;
                faultPlace = notedPlace;
            }
        }

        private void begin(Lectures draft) {
            text = draft;
            text.clear();
            at = 0;
            fault = 0;
            faultPlace = NONE;
            noted = 0;
            notedPlace = NONE;
        }

        private boolean fails(int number) {
            fault = number;
            faultPlace = tokens.places[at];
            return false;
        }

        private void note(int number) {
            if (noted == 0) {
                noted = number;
                notedPlace = valuePlace;
            }
        }

        private boolean take(int sort) {
            if (tokens.sorts[at] != sort) {
                return fails(SYNTAX);
            }
            if (at >= Tokens.MOST) {
                return fails(ROOM);
            }
            value = tokens.values[at];
            valuePlace = tokens.places[at];
            at++;
            return true;
        }

        private boolean readLecture(int lecture) {
            if (!take(Tokens.LECTURE) || !take(Tokens.NAME)) {
                return false;
            }
            if (text.hasName(value)) {
                note(TWICE);
            }
            text.begin(value);
            return take(Tokens.SEMICOLON) && readCues(lecture) && readHires(lecture) && take(Tokens.END);
        }

        private boolean readCues(int lecture) {
            for (int i = 0; i <= Lectures.MOST_CUES; i++) {
                int sort = tokens.sorts[at];
                if (sort != Tokens.MUST && sort != Tokens.MAY) {
                    return true;
                }
                if (i == Lectures.MOST_CUES) {
                    return fails(ROOM);
                }
                if (!readCue(lecture * Lectures.MOST_CUES + i, sort)) {
                    return false;
                }
                text.cueCounts[lecture] = i + 1;
            }
            return false;
        }

        private boolean readCue(int cue, int sort) {
            text.musts[cue] = sort == Tokens.MUST;
            if (!take(sort) || !readKinds(cue) || !take(Tokens.FOR) || !take(Tokens.INT)) {
                return false;
            }
            if (value < 1 || value > MOST_MINUTES) {
                note(WRONG);
            }
            text.minutes[cue] = (int) value;
            text.fades[cue] = 0;
            if (tokens.sorts[at] == Tokens.FADE) {
                if (!take(Tokens.FADE) || !take(Tokens.INT)) {
                    return false;
                }
                if (value > text.minutes[cue]) {
                    note(WRONG);
                }
                text.fades[cue] = (int) value;
            }
            return take(Tokens.SEMICOLON);
        }

        private boolean readKinds(int cue) {
            text.kindCounts[cue] = 0;
            for (int i = 0; i <= Lectures.MOST_KINDS; i++) {
                if (i == Lectures.MOST_KINDS && tokens.sorts[at] == Tokens.INT) {
                    return fails(ROOM);
                }
                if (!take(Tokens.INT)) {
                    return false;
                }
                if (text.hasKind(cue, (int) value)) {
                    note(TWICE);
                } else if (value > Stock.LAST_KIND) {
                    note(WRONG);
                }
                text.addKind(cue, (int) value);
                if (tokens.sorts[at] != Tokens.OR) {
                    return true;
                }
                if (!take(Tokens.OR)) {
                    return false;
                }
            }
            return false;
        }

        private boolean readHires(int lecture) {
            for (int i = 0; i <= Lectures.MOST_HIRES; i++) {
                if (tokens.sorts[at] != Tokens.HIRE) {
                    return true;
                }
                if (i == Lectures.MOST_HIRES) {
                    return fails(ROOM);
                }
                int hire = lecture * Lectures.MOST_HIRES + i;
                text.hireStarts[hire] = text.codeSize;
                if (!readHire()) {
                    return false;
                }
                text.hireEnds[hire] = text.codeSize;
                text.hireCounts[lecture] = i + 1;
            }
            return false;
        }

        private boolean readHire() {
            if (!take(Tokens.HIRE) || !readSum()) {
                return false;
            }
            int joint = Tokens.IF;
            for (int i = 0; i < Tokens.MOST && tokens.sorts[at] == joint; i++) {
                if (!take(joint) || !readSum()) {
                    return false;
                }
                int relation = tokens.sorts[at];
                if (!Tokens.isRelation(relation)) {
                    return fails(SYNTAX);
                }
                if (!take(relation) || !readSum()) {
                    return false;
                }
                text.emit(-relation);
                joint = Tokens.AND;
            }
            return take(Tokens.SEMICOLON);
        }

        /** Reads an E up to the first TOKEN that can't be of it; that one is for the caller to judge. */
        private boolean readSum() {
            waitingCount = 0;
            int open = 0;
            boolean unitIsDue = true;
            for (int i = 0; i <= Tokens.MOST; i++) {
                int sort = tokens.sorts[at];
                if (unitIsDue) {
                    if (sort == Tokens.OPEN && open == MOST_OPEN) {
                        return fails(ROOM);
                    }
                    if (sort == Tokens.OPEN) {
                        open++;
                        hold(sort);
                    } else if (sort == Tokens.INT || Tokens.isVar(sort)) {
                        text.emit(sort == Tokens.INT ? (int) tokens.values[at] : -sort);
                        unitIsDue = false;
                    } else {
                        return fails(SYNTAX);
                    }
                } else if (Tokens.isOperator(sort)) {
                    release(sort == Tokens.TIMES);
                    hold(sort);
                    unitIsDue = true;
                } else if (sort == Tokens.CLOSE && open > 0) {
                    release(false);
                    waitingCount--;
                    open--;
                } else {
                    release(false);
                    return open == 0 || fails(SYNTAX);
                }
                if (!take(sort)) {
                    return false;
                }
            }
            return false;
        }

        private void hold(int sort) {
            if (waitingCount < MOST_WAITING) {
                waiting[waitingCount] = sort;
                waitingCount++;
            }
        }

        /** Writes the signs that wait, down to the last ( that is open; of them only * if just those bind. */
        private void release(boolean timesAlone) {
            while (waitingCount > 0) {
                int sort = waiting[waitingCount - 1];
                if (sort == Tokens.OPEN || timesAlone && sort != Tokens.TIMES) {
                    return;
                }
                text.emit(-sort);
                waitingCount--;
            }
        }
    }

    /** HALLS, TRAINS, and on which days these do not RUN as far as is KNOWN. */
    static final class Rails {
        static final int MOST_HALLS = 6;
        static final int MOST_TRAINS = 16;
        static final int LONGEST = 30;
        static final int DAYS_LOOKED_AT = 60;

        final int[] froms = new int[MOST_TRAINS];
        final int[] tos = new int[MOST_TRAINS];
        final int[] hours = new int[MOST_TRAINS];
        final int[] lengths = new int[MOST_TRAINS];
        /** A bit for each day of LAST_DAY and ahead. */
        final long[] idleDays = new long[MOST_TRAINS];
        final int[] reached = new int[MOST_HALLS];
        int halls = 1;
        int trains = 0;

        int addHall() {
            if (halls >= MOST_HALLS) {
                return NONE;
            }
            halls++;
            return halls - 1;
        }

        boolean isHall(int hall) {
            return hall >= 0 && hall < halls;
        }

        int addTrain(int from, int to, int hour, int takes) {
            if (trains >= MOST_TRAINS || !isHall(from) || !isHall(to) || from == to) {
                return NONE;
            }
            if (hour < 0 || hour > 23 || takes < 1 || takes > LONGEST) {
                return NONE;
            }
            froms[trains] = from;
            tos[trains] = to;
            hours[trains] = hour;
            lengths[trains] = takes;
            trains++;
            return trains - 1;
        }

        void learn(Facts facts, int n) {
            Arrays.fill(idleDays, 0L);
            for (int i = 0; i < n; i++) {
                if (facts.sorts[i] == Facts.IDLE) {
                    idleDays[facts.subjects[i]] |= 1L << facts.times[i];
                }
            }
        }

        int soonest(int from, int to, int hour) {
            spread(from, hour, reached);
            return reached[to];
        }

        /**
         * THE WAYS from a HALL to all: the HOUR at which each is reached, NONE if it is not. A later
         * start never arrives sooner by a TRAIN, so the soonest HOUR of each HALL is all that must be
         * held; a WAY has fewer TRAINS than there are HALLS, so as many rounds are enough.
         */
        void spread(int from, int hour, int[] arrivals) {
            Arrays.fill(arrivals, NONE);
            arrivals[from] = hour;
            int daysEnd = hour / 24 + DAYS_LOOKED_AT;
            boolean sooner = true;
            for (int round = 1; round < MOST_HALLS && sooner; round++) {
                sooner = false;
                for (int train = 0; train < trains; train++) {
                    int start = arrivals[froms[train]];
                    int end = start == NONE ? NONE : arrival(train, start, daysEnd);
                    int known = arrivals[tos[train]];
                    if (end != NONE && (known == NONE || end < known)) {
                        arrivals[tos[train]] = end;
                        sooner = true;
                    }
                }
            }
        }

        private int arrival(int train, int start, int daysEnd) {
            int day = start / 24;
            if (24 * day + hours[train] < start) {
                day++;
            }
            while (day <= LAST_DAY && (idleDays[train] >> day & 1) == 1) {
                day++;
            }
            return day < daysEnd ? 24 * day + hours[train] + lengths[train] : NONE;
        }
    }

    /** PLATES by their numbers and, as bits, by KINDS. */
    static final class Stock {
        static final int MOST = 20;
        static final int LAST_KIND = 29;

        final int[] kinds = new int[MOST];
        final int[] platesOfKind = new int[LAST_KIND + 1];
        int size = 0;

        int add(int kind) {
            if (size >= MOST || kind < 0 || kind > LAST_KIND) {
                return NONE;
            }
            kinds[size] = kind;
            platesOfKind[kind] |= 1 << size;
            size++;
            return size - 1;
        }

        int kindOf(int number) {
            return number >= 0 && number < size ? kinds[number] : NONE;
        }
    }

    /** FACTS as told: the subject is a TRAIN or a PLATE, the time a day or an HOUR. */
    static final class Facts {
        static final int MOST = 300;
        static final int IDLE = 0;
        static final int WHOLE = 1;
        static final int BROKEN = 2;

        final int[] sorts = new int[MOST];
        final int[] subjects = new int[MOST];
        final int[] times = new int[MOST];
        final int[] latest = new int[Stock.MOST];
        int size = 0;

        int add(int sort, int subject, int time) {
            if (size >= MOST) {
                return NONE;
            }
            sorts[size] = sort;
            subjects[size] = subject;
            times[size] = time;
            size++;
            return size - 1;
        }

        boolean isKnown(int n) {
            return n >= 0 && n <= size;
        }

        /** The PLATES that are BROKEN at an HOUR, as bits. */
        int brokenPlates(int hour, int n) {
            Arrays.fill(latest, NONE);
            int plates = 0;
            for (int i = 0; i < n; i++) {
                int subject = subjects[i];
                if (sorts[i] != IDLE && times[i] <= hour && times[i] >= latest[subject]) {
                    latest[subject] = times[i];
                    int bit = 1 << subject;
                    plates = sorts[i] == BROKEN ? plates | bit : plates & ~bit;
                }
            }
            return plates;
        }

        /** The LOOK, by HOURS and of the same as told, that is the first to say that a PLATE is broken. */
        int firstBroken(int subject, int n) {
            int first = NONE;
            for (int i = 0; i < n; i++) {
                if (sorts[i] == BROKEN && subjects[i] == subject
                        && (first == NONE || times[i] < times[first])) {
                    first = i;
                }
            }
            return first;
        }

        /** The HOUR of the last whole LOOK at that PLATE ahead of this one; NONE is HOUR -1. */
        int lastWhole(int ahead, int n) {
            int last = NONE;
            for (int i = 0; i < n; i++) {
                boolean isAhead = times[i] < times[ahead] || times[i] == times[ahead] && i < ahead;
                if (sorts[i] == WHOLE && subjects[i] == subjects[ahead] && isAhead) {
                    last = Math.max(last, times[i]);
                }
            }
            return last;
        }
    }

    /** SHOWS, and the text whose LECTURES they are of. */
    static final class Shows {
        static final int MOST = 8;
        static final int LAST_NIGHT = 27;
        static final int MOST_GAS = 500;
        static final int MOST_WORTH = 1000;

        final int[] nights = new int[MOST];
        final int[] halls = new int[MOST];
        final int[] lectures = new int[MOST];
        final int[] gas = new int[MOST];
        final int[] worths = new int[MOST];
        /** NIGHT by NIGHT, of the same by numbers. */
        final int[] order = new int[MOST];
        int size = 0;
        Lectures text;

        Shows(Lectures text) {
            this.text = text;
        }

        void startOver(Lectures newText) {
            text = newText;
            size = 0;
        }

        int add(int night, int inHall, int lecture, int gasThere, int worth) {
            if (size >= MOST || night < 0 || night > LAST_NIGHT || isTaken(night, inHall)) {
                return NONE;
            }
            if (lecture < 0 || lecture >= text.size || gasThere < 0 || gasThere > MOST_GAS
                    || worth < 0 || worth > MOST_WORTH) {
                return NONE;
            }
            nights[size] = night;
            halls[size] = inHall;
            lectures[size] = lecture;
            gas[size] = gasThere;
            worths[size] = worth;
            putInOrder(night);
            size++;
            return size - 1;
        }

        private boolean isTaken(int night, int inHall) {
            for (int i = 0; i < size; i++) {
                if (nights[i] == night && halls[i] == inHall) {
                    return true;
                }
            }
            return false;
        }

        private void putInOrder(int night) {
            int spot = size;
            while (spot > 0 && nights[order[spot - 1]] > night) {
                order[spot] = order[spot - 1];
                spot--;
            }
            order[spot] = size;
        }

        boolean isShow(int number) {
            return number >= 0 && number < size;
        }

        /** The set of all SHOWS, as bits. */
        int all() {
            return (1 << size) - 1;
        }

        int worthOf(int set) {
            int sum = 0;
            for (int i = 0; i < size; i++) {
                if ((set >> i & 1) == 1) {
                    sum += worths[i];
                }
            }
            return sum;
        }

        int cuesOf(int number) {
            return text.cueCounts[lectures[number]];
        }

        int dueHour(int number) {
            return 24 * nights[number] + 18;
        }

        int shownHour(int number) {
            return 24 * nights[number] + 20;
        }

        int freeHour(int number) {
            return 24 * nights[number] + 23;
        }
    }

    /** KEEPING of sets: what all sets share is found out once, as it depends on SHOWS and FACTS alone. */
    static final class Keeper {
        /** Where a PLATE is free that no SHOW of the set had: behind the SHOWS in the rows below. */
        static final int HOUSE = Shows.MOST;

        final Shows shows;
        final Stock stock;
        final Facts facts;
        final Rails rails;
        final int[][] arrivals = new int[Shows.MOST + 1][Rails.MOST_HALLS];
        final int[] broken = new int[Shows.MOST];
        final int[] freeAt = new int[Stock.MOST];
        int cleaningHours = 0;

        Keeper(Shows shows, Stock stock, Facts facts, Rails rails) {
            this.shows = shows;
            this.stock = stock;
            this.facts = facts;
            this.rails = rails;
        }

        void prepare(int n) {
            rails.learn(facts, n);
            rails.spread(0, 0, arrivals[HOUSE]);
            for (int i = 0; i < shows.size; i++) {
                rails.spread(shows.halls[i], shows.freeHour(i) + cleaningHours, arrivals[i]);
                broken[i] = facts.brokenPlates(shows.dueHour(i), n);
            }
        }

        boolean keep(int set, Plan plan) {
            plan.begin(set, shows.worthOf(set));
            Arrays.fill(freeAt, HOUSE);
            for (int i = 0; i < shows.size; i++) {
                int number = shows.order[i];
                if (plan.has(number) && !keepShow(number, plan)) {
                    return false;
                }
            }
            return true;
        }

        private boolean keepShow(int number, Plan plan) {
            Lectures text = shows.text;
            int firstCue = shows.lectures[number] * Lectures.MOST_CUES;
            int there = platesThatCome(number);
            for (int i = 0; i < shows.cuesOf(number); i++) {
                int cue = firstCue + i;
                int choice = firstChoice(cue, there);
                if (choice == NONE) {
                    if (text.musts[cue]) {
                        return false;
                    }
                    plan.miss(Plan.slot(number, i));
                    continue;
                }
                int kind = text.kinds[cue * Lectures.MOST_KINDS + choice];
                int picked = lowestOf(there & stock.platesOfKind[kind]);
                plan.give(Plan.slot(number, i), picked, choice > 0, wayEnd(picked, number));
                freeAt[picked] = number;
                there &= ~(1 << picked);
            }
            return true;
        }

        /** The PLATES, as bits, that CAN be had for a SHOW, of whatever KIND. */
        private int platesThatCome(int number) {
            int come = 0;
            for (int i = 0; i < stock.size; i++) {
                int arrival = arrivals[freeAt[i]][shows.halls[number]];
                if (arrival != NONE && arrival <= shows.dueHour(number)) {
                    come |= 1 << i;
                }
            }
            return come & ~broken[number];
        }

        private int firstChoice(int cue, int there) {
            Lectures text = shows.text;
            for (int i = 0; i < text.kindCounts[cue]; i++) {
                int kind = text.kinds[cue * Lectures.MOST_KINDS + i];
                if ((there & stock.platesOfKind[kind]) != 0) {
                    return i;
                }
            }
            return NONE;
        }

        private static int lowestOf(int bits) {
            // As many bits as are below the lowest one that is set.
            return Integer.bitCount((bits & -bits) - 1);
        }

        /** The HOUR at which the way of a PLATE to a SHOW ends; NONE if it is in that HALL already. */
        private int wayEnd(int picked, int number) {
            int source = freeAt[picked];
            int fromHall = source == HOUSE ? 0 : shows.halls[source];
            int toHall = shows.halls[number];
            return fromHall == toHall ? NONE : arrivals[source][toHall];
        }
    }

    /** A set of SHOWS with what each of its CUES got; a slot is a CUE of a SHOW. */
    static final class Plan {
        static final int WAY = 100;

        final int[] plates = new int[Shows.MOST * Lectures.MOST_CUES];
        final int[] wayEnds = new int[Shows.MOST * Lectures.MOST_CUES];
        final boolean[] standIns = new boolean[Shows.MOST * Lectures.MOST_CUES];
        int set = 0;
        int worth = 0;
        int changes = 0;
        int missed = 0;
        int instead = 0;

        static int slot(int number, int cueNumber) {
            return number * Lectures.MOST_CUES + cueNumber;
        }

        void begin(int newSet, int newWorth) {
            set = newSet;
            worth = newWorth;
            changes = 0;
            missed = 0;
            instead = 0;
        }

        boolean has(int number) {
            return (set >> number & 1) == 1;
        }

        void miss(int slot) {
            plates[slot] = NONE;
            wayEnds[slot] = NONE;
            standIns[slot] = false;
            missed++;
        }

        void give(int slot, int picked, boolean isStandIn, int wayEnd) {
            plates[slot] = picked;
            wayEnds[slot] = wayEnd;
            standIns[slot] = isStandIn;
            if (isStandIn) {
                instead++;
            }
        }

        boolean isBetterThan(Plan other) {
            if (worth != other.worth) {
                return worth > other.worth;
            }
            if (changes != other.changes) {
                return changes < other.changes;
            }
            if (missed != other.missed) {
                return missed < other.missed;
            }
            if (instead != other.instead) {
                return instead < other.instead;
            }
            int differ = set ^ other.set;
            return (set & differ & -differ) != 0;
        }

        /** The slot in which a SHOW that is KEPT has a PLATE, or NONE. */
        private int slotWith(int number, int sought, Shows shows) {
            if (has(number)) {
                for (int i = 0; i < shows.cuesOf(number); i++) {
                    if (plates[slot(number, i)] == sought) {
                        return slot(number, i);
                    }
                }
            }
            return NONE;
        }

        /** What came to a PLATE behind an HOUR and up to another one, if it was just one thing. */
        int whatCame(int sought, int behind, int upTo, Shows shows) {
            int came = NOTHING_CAME;
            int times = 0;
            for (int i = 0; i < shows.size; i++) {
                int slot = slotWith(i, sought, shows);
                if (slot == NONE) {
                    continue;
                }
                int hour = shows.shownHour(i);
                if (hour > behind && hour <= upTo) {
                    came = i;
                    times++;
                }
                // Where no way was needed its end is NONE, which is behind no HOUR.
                if (wayEnds[slot] > behind && wayEnds[slot] <= upTo) {
                    came = WAY + i;
                    times++;
                }
            }
            return times > 1 ? SEVERAL_CAME : came;
        }

        int sentTo(int sought, int hour, Shows shows) {
            int inHall = 0;
            for (int i = 0; i < shows.size; i++) {
                int number = shows.order[i];
                if (shows.dueHour(number) <= hour && slotWith(number, sought, shows) != NONE) {
                    inHall = shows.halls[number];
                }
            }
            return inHall;
        }
    }

    /** A SHOWING gone through by its CUES, and its HIRE. */
    static final class Showing {
        /** Two sides wait at each depth of (, and below them the E while its RELS are gone through. */
        static final int MOST_VALUES = 2 * (Reader.MOST_OPEN + 1) + 3;

        final int[] begins = new int[Lectures.MOST_CUES];
        final boolean[] isShown = new boolean[Lectures.MOST_CUES];
        final int[] values = new int[MOST_VALUES];
        int shown = 0;
        int missed = 0;
        int instead = 0;
        int minutes = 0;
        int gas = 0;
        int worth = 0;
        int firstDark = NONE;
        int hire = 0;
        int hireNumber = NONE;

        void goThrough(int number, Shows shows, Plan plan) {
            begin(shows.worths[number]);
            Lectures text = shows.text;
            int firstCue = shows.lectures[number] * Lectures.MOST_CUES;
            int minute = 0;
            for (int i = 0; i < shows.cuesOf(number); i++) {
                int slot = Plan.slot(number, i);
                int lasts = text.minutes[firstCue + i];
                int burns = lasts + text.fades[firstCue + i];
                boolean isMissed = plan.plates[slot] == NONE;
                begins[i] = isMissed ? NONE : minute;
                isShown[i] = !isMissed && firstDark == NONE && gas + burns <= shows.gas[number];
                if (isShown[i]) {
                    shown++;
                    minutes += lasts;
                    gas += burns;
                    instead += plan.standIns[slot] ? 1 : 0;
                } else {
                    missed++;
                }
                if (!isMissed) {
                    minute += lasts;
                    firstDark = isShown[i] || firstDark != NONE ? firstDark : i;
                }
            }
            findHire(text, shows.lectures[number]);
        }

        private void begin(int newWorth) {
            shown = 0;
            missed = 0;
            instead = 0;
            minutes = 0;
            gas = 0;
            worth = newWorth;
            firstDark = NONE;
            hire = 0;
            hireNumber = NONE;
        }

        private void findHire(Lectures text, int lecture) {
            for (int i = 0; i < text.hireCounts[lecture]; i++) {
                int index = lecture * Lectures.MOST_HIRES + i;
                if (holds(text.code, text.hireStarts[index], text.hireEnds[index])) {
                    hire = values[0];
                    hireNumber = i;
                    return;
                }
            }
        }

        /** Whether all RELS of a HIRE hold; its E is the lowest of the values then. */
        private boolean holds(int[] code, int start, int end) {
            int depth = 0;
            for (int i = start; i < end; i++) {
                int step = code[i];
                if (step >= 0 || Tokens.isVar(-step)) {
                    if (depth >= MOST_VALUES) {
                        return false;
                    }
                    values[depth] = step >= 0 ? step : variable(-step);
                    depth++;
                    continue;
                }
                if (depth < 2) {
                    return false;
                }
                int left = values[depth - 2];
                int right = values[depth - 1];
                depth -= 2;
                if (Tokens.isRelation(-step)) {
                    if (!relates(-step, left, right)) {
                        return false;
                    }
                } else {
                    values[depth] = reckon(-step, left, right);
                    depth++;
                }
            }
            return true;
        }

        private int variable(int sort) {
            switch (sort) {
                case Tokens.SHOWN: return shown;
                case Tokens.MISSED: return missed;
                case Tokens.INSTEAD: return instead;
                case Tokens.MINUTES: return minutes;
                case Tokens.GAS: return gas;
                default: return worth;
            }
        }

        private static int reckon(int sort, int left, int right) {
            switch (sort) {
                case Tokens.PLUS: return left + right;
                case Tokens.MINUS: return left - right;
                default: return left * right;
            }
        }

        private static boolean relates(int sort, int left, int right) {
            switch (sort) {
                case Tokens.EQUAL: return left == right;
                case Tokens.UNEQUAL: return left != right;
                case Tokens.LESS: return left < right;
                default: return left <= right;
            }
        }
    }
}
