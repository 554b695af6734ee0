import java.util.NoSuchElementException;

/** Small lands that take of whoever comes in and give to their own; ../shared/DOC.md tells every call. */
public final class InchBorders {
    public static final int NONE = -1;

    private static final int MOST_LANDS = 7;
    private static final int MOST_ROADS = 12;
    private static final int MOST_PERSONS = 6;
    private static final int MOST_BYTES = 940;
    private static final int MOST_TAKE = 20;
    private static final int MOST_STORE = 99;
    private static final int MOST_DAYS = 60;
    private static final int MOST_SEEDS = 30;
    private static final int ODDS_DAYS = 20;
    private static final int LONGEST = 240;
    private static final int LAST_DAY = 400;
    private static final int MOST_LINES = 40;
    private static final int MOST_ONES = 20;
    private static final int DEEPEST_ONE = 8;
    private static final int WAY_CROSSINGS = 5;
    private static final int MADE_CROSSINGS = 4;
    private static final int KEPT_ACTS = 8;
    private static final int PLACES = 2;
    private static final int PASS_BYTES = 40;
    private static final int NO_BOOK = -1000;

    private static final int MAP_BYTES = 900;
    private static final int BOOK_BYTES = 400;
    private static final int SENTENCE_BYTES = 200;

    private static final int CANT_COME = 1;
    private static final int BAD_NUMBER = 2;
    private static final int BAD_NAME = 3;
    private static final int TOO_MANY = 4;

    // Ten times these and why an act can't be done is what told(0) answers.
    private static final int CROSSING = 0;
    private static final int PACTING = 1;
    private static final int BREAKING = 2;
    private static final int CLOSING = 3;
    private static final int OPENING = 4;
    private static final int LENDING = 5;
    private static final int DAYS_GOING = 6;

    private static final Word[] WORDS = Word.values();

    private final Tape tape = new Tape();
    private final State state;
    private final State trial;
    private final State[] past = new State[KEPT_ACTS];
    private int pastNext = 0;
    private int pastKept = 0;
    private final State[] images = new State[PLACES];
    private int imaged = 0;
    private final MapText mapText;
    private final Book latestBook;
    private final int[] verdict = {NONE, NONE, NONE, NONE};
    private final Walk walk;
    private final Caravan train;
    private final Row wayRow = new Row(WAY_CROSSINGS);
    private final Row madeRow = new Row(WAY_CROSSINGS);
    private final Row caravanRow = new Row(MOST_PERSONS);
    private final Row passRow = new Row(PASS_BYTES);
    private int likeliest = NONE;
    private int sparing = NONE;
    private int cutRoads = NONE;

    public InchBorders() {
        Chart empty = new Chart();
        state = new State(empty);
        trial = new State(empty);
        for (int k = 0; k < KEPT_ACTS; k++) {
            past[k] = new State(empty);
        }
        for (int k = 0; k < PLACES; k++) {
            images[k] = new State(empty);
        }
        mapText = new MapText(tape, trial);
        latestBook = new Book(tape, empty);
        walk = new Walk(empty);
        train = new Caravan(state);
    }

    public int feed(int a, int b, int c, int d, int e) {
        if (tape.length + 20 > MOST_BYTES) {
            return NONE;
        }
        tape.add(a);
        tape.add(b);
        tape.add(c);
        tape.add(d);
        tape.add(e);
        return tape.length;
    }

    public boolean end(int n) {
        if (n < 0 || n > tape.length) {
            return false;
        }
        tape.length = n;
        return true;
    }

    public int map() {
        trial.clear(new Chart());
        int lines = mapText.read();
        tape.length = 0;
        if (tape.fault != 0) {
            return -1 - tape.place;
        }
        state.copy(trial);
        pastKept = 0;
        return lines;
    }

    public int fault() {
        return tape.fault;
    }

    public int person(int p, int what) throws NoSuchElementException {
        if (!isPerson(p)) {
            throw new NoSuchElementException();
        }
        switch (what) {
            case 0: return state.chart.home[p];
            case 1: return state.at[p];
            case 2: return state.length[p];
            case 3: return state.taken[p];
            case 4: return state.given[p];
            case 5: return state.crossed[p];
            case 6: return state.whither(p);
            default: throw new NoSuchElementException();
        }
    }

    public int land(int l, int what) {
        if (!isLand(l)) {
            return NONE;
        }
        switch (what) {
            case 0: return state.chart.take[l];
            case 1: return state.chart.give[l];
            case 2: return state.store[l];
            case 3: return state.spares[l];
            case 4: return state.personsIn(l);
            default: return NONE;
        }
    }

    public int road(int r, int what) {
        if (r < 0 || r >= state.chart.roads) {
            return NONE;
        }
        switch (what) {
            case 0: return state.chart.first[r];
            case 1: return state.chart.second[r];
            case 2: return state.chart.low[r];
            case 3: return state.chart.high[r];
            case 4: return hasBit(state.closed, r) ? 1 : 0;
            default: return NONE;
        }
    }

    public int now(int what) {
        switch (what) {
            case 0: return state.day;
            case 1: return state.allLengths();
            case 2: return state.allStores();
            case 3: return state.allCrossings();
            case 4: return state.closed;
            case 5: return state.atHome();
            case 6: return state.stuck();
            case 7: return state.treaties();
            default: return NONE;
        }
    }

    public int cross(int p, int l) {
        return isPerson(p) && isLand(l) ? attempt(CROSSING, p, l, 0) : NONE;
    }

    public int pact(int a, int b) {
        return isLand(a) && isLand(b) ? attempt(PACTING, a, b, 0) : NONE;
    }

    public int breaks(int a, int b) {
        return isLand(a) && isLand(b) ? attempt(BREAKING, a, b, 0) : NONE;
    }

    public int close(int r) {
        return r >= 0 && r < MOST_ROADS ? attempt(CLOSING, r, 0, 0) : NONE;
    }

    public int open(int r) {
        return r >= 0 && r < MOST_ROADS ? attempt(OPENING, r, 0, 0) : NONE;
    }

    public int lend(int a, int b, int n) {
        if (!isLand(a) || !isLand(b) || n < 1 || n > MOST_STORE) {
            return NONE;
        }
        return attempt(LENDING, a, b, n);
    }

    public int days(int n) {
        if (n < 1 || n > MOST_DAYS) {
            return NONE;
        }
        int go = Math.min(n, LAST_DAY - state.day);
        if (go > 0) {
            attempt(DAYS_GOING, 0, 0, go);
        }
        return go;
    }

    public int undo() {
        if (pastKept == 0) {
            return NONE;
        }
        pastNext = pastNext == 0 ? KEPT_ACTS - 1 : pastNext - 1;
        pastKept--;
        // A SENTENCE is no act: it outlives the undoing of acts ahead of it.
        Sentence latest = state.sentence;
        state.copy(past[pastNext]);
        state.sentence = latest;
        return pastKept;
    }

    public int way(int p, int l, int n) {
        if (!isPerson(p) || !isLand(l) || !isLength(n)) {
            return NONE;
        }
        if (!walk.findWay(state, p, 0, l, n)) {
            return NONE;
        }
        wayRow.copy(walk.best);
        return wayRow.length;
    }

    public int wayAt(int k) {
        return wayRow.at(k);
    }

    public int round(int p) {
        return isPerson(p) ? walk.longestRound(state, p) : NONE;
    }

    public int spare(int p, int l, int n) {
        if (!isPerson(p) || !isLand(l) || !isLength(n)) {
            return NONE;
        }
        int home = state.chart.home[p];
        int every = (1 << state.chart.lands) - 1;
        int could = every & ~(1 << home) & ~state.spares[home];
        for (int size = 0; size <= MOST_LANDS; size++) {
            for (int set = 0; set <= could; set++) {
                boolean fits = (set & ~could) == 0 && Integer.bitCount(set) == size;
                if (fits && walk.findWay(state, p, set, l, n)) {
                    sparing = set;
                    return size;
                }
            }
        }
        return NONE;
    }

    public int spared() {
        return sparing;
    }

    public int made() {
        int bytes = tape.length;
        tape.length = 0;
        if (bytes != 2 || !isPerson(tape.byteOf(0))) {
            return NONE;
        }
        int rows = walk.countRows(state, tape.byteOf(0), tape.byteOf(1));
        if (rows > 0) {
            madeRow.copy(walk.best);
            likeliest = walk.likeliestEnd();
        }
        return rows;
    }

    public int madeAt(int k) {
        return madeRow.at(k);
    }

    public int likely() {
        return likeliest;
    }

    public int caravan(int l) {
        if (!isLand(l)) {
            return NONE;
        }
        int together = train.longestTogether(state, l);
        caravanRow.copy(train.best);
        return together;
    }

    public int caravanAt(int k) {
        return caravanRow.at(k);
    }

    public int part(int a, int b) {
        if (!isLand(a) || !isLand(b) || a == b) {
            return NONE;
        }
        int could = ((1 << state.chart.roads) - 1) & ~state.closed;
        for (int size = 0; size <= MOST_ROADS; size++) {
            for (int set = 0; set <= could; set++) {
                boolean fits = (set & ~could) == 0 && Integer.bitCount(set) == size;
                if (fits && state.chart.areParted(a, b, state.closed | set)) {
                    cutRoads = set;
                    return size;
                }
            }
        }
        return NONE;
    }

    public int parting() {
        return cutRoads;
    }

    public int rests() {
        trial.copy(state);
        for (int gone = 0; gone < LAST_DAY && trial.day < LAST_DAY; gone++) {
            if (!trial.somebodyGrows()) {
                return gone;
            }
            trial.goDay();
        }
        return NONE;
    }

    public int pass(int p) {
        if (!isPerson(p)) {
            return NONE;
        }
        Chart chart = state.chart;
        passRow.length = 0;
        passRow.addName(chart.personName[p]);
        passRow.addText(" of ");
        passRow.addName(chart.landName[chart.home[p]]);
        passRow.addText(" in ");
        passRow.addName(chart.landName[state.at[p]]);
        passRow.addText(" ");
        passRow.addDigits(state.length[p]);
        return passRow.length;
    }

    public int byteAt(int i) {
        return passRow.at(i);
    }

    public int drawn(int n, int seed) {
        if (n < 1 || n > MOST_DAYS || state.chart.lands == 0) {
            return NONE;
        }
        if (state.day >= LAST_DAY) {
            return 0;
        }
        keep();
        return state.drawDays(n, seed);
    }

    public int odds(int p, int n, int seed) {
        if (!isPerson(p) || n < 1 || n > MOST_SEEDS) {
            return NONE;
        }
        int longer = 0;
        for (int k = 0; k < n; k++) {
            trial.copy(state);
            trial.drawDays(ODDS_DAYS, seed + k);
            if (trial.length[p] > state.length[p]) {
                longer++;
            }
        }
        return longer;
    }

    public int book(int lives) {
        if (lives != 0 && lives != 1) {
            return NO_BOOK;
        }
        latestBook.read(state.chart);
        tape.length = 0;
        if (tape.fault != 0) {
            return -2 - tape.place;
        }
        trial.copy(state);
        int right = latestBook.live(trial);
        verdict[0] = latestBook.why;
        verdict[1] = right;
        verdict[2] = trial.day;
        verdict[3] = trial.allLengths();
        if (lives == 1 && right > 0) {
            keep();
            state.copy(trial);
        }
        return latestBook.why == 0 ? NONE : right;
    }

    public int told(int what) {
        return what >= 0 && what < verdict.length ? verdict[what] : NONE;
    }

    public int sentence() {
        Sentence read = new Sentence(tape, state.chart);
        read.read();
        tape.length = 0;
        if (tape.fault != 0) {
            return -1 - tape.place;
        }
        state.sentence = read;
        return read.ones;
    }

    public int said(int k) {
        if (state.sentence == null || k < NONE) {
            return NONE;
        }
        int persons = state.sentence.persons(state);
        if (k == NONE) {
            return Integer.bitCount(persons);
        }
        int ahead = 0;
        for (int p = 0; p < state.chart.persons; p++) {
            if (hasBit(persons, p)) {
                if (ahead == k) {
                    return p;
                }
                ahead++;
            }
        }
        return NONE;
    }

    public boolean image(int k) {
        if (k < 0 || k >= PLACES) {
            return false;
        }
        images[k].copy(state);
        imaged |= 1 << k;
        return true;
    }

    public boolean restore(int k) {
        if (k < 0 || k >= PLACES || !hasBit(imaged, k)) {
            return false;
        }
        state.copy(images[k]);
        pastKept = 0;
        return true;
    }

    public int count(int what) {
        switch (what) {
            case 0: return state.chart.lands;
            case 1: return state.chart.roads;
            case 2: return state.chart.persons;
            case 3: return tape.length;
            default: return NONE;
        }
    }

    private boolean isLand(int l) {
        return l >= 0 && l < state.chart.lands;
    }

    private boolean isPerson(int p) {
        return p >= 0 && p < state.chart.persons;
    }

    private static boolean isLength(int n) {
        return n >= 0 && n <= LONGEST;
    }

    private static boolean hasBit(int bits, int k) {
        return (bits >>> k & 1) == 1;
    }

    private int attempt(int act, int a, int b, int n) {
        int why = state.whyNot(act, a, b, n);
        if (why == 0) {
            keep();
            state.perform(act, a, b, n);
        }
        return why;
    }

    private void keep() {
        past[pastNext].copy(state);
        pastNext = pastNext == KEPT_ACTS - 1 ? 0 : pastNext + 1;
        pastKept = Math.min(pastKept + 1, KEPT_ACTS);
    }

    /** The words that no NAME may be. */
    private enum Word {
        LAND("land"), STORE("store"), ROAD("road"), TREATY("treaty"), PERSON("person"),
        CROSSES("crosses"), PACT("pact"), BREAK("break"), CLOSE("close"), OPEN("open"),
        LEND("lend"), DAY("day"),
        OR("or"), AND("and"), NOT("not"), HOME("home"), STUCK("stuck"), IN("in"), OF("of"),
        FREE("free"), LENGTH("length"), TAKEN("taken"), CROSSED("crossed"), NUMBER("number");

        final long code;

        Word(String text) {
            long sum = 0;
            for (int i = 0; i < text.length(); i++) {
                sum = sum * 32 + (text.charAt(i) - 96);
            }
            code = sum;
        }
    }

    /** The bytes fed, the TOKENS that a reading finds in them, and the first FAULT of the latest reading. */
    private static final class Tape {
        // A sign's kind is its byte, and all signs are above these.
        static final int END = 0;
        static final int WORD = 1;
        static final int NUMBER = 2;
        static final int NO_TOKEN = 3;

        final byte[] bytes = new byte[MOST_BYTES];
        int length = 0;
        private final int[] kinds = new int[MOST_BYTES + 1];
        private final int[] starts = new int[MOST_BYTES + 1];
        // A NUMBER, or a WORD's letters, five bits each: it has seven at most.
        private final long[] values = new long[MOST_BYTES + 1];
        private final Word[] words = new Word[MOST_BYTES + 1];
        private int tokens = 0;
        private int current = 0;
        int kind = END;
        long value = 0;
        Word known = null;
        int fault = 0;
        int place = 0;

        void add(int number) {
            for (int shift = 24; shift >= 0 && length < MOST_BYTES; shift -= 8) {
                bytes[length] = (byte) (number >>> shift);
                length++;
            }
        }

        int byteOf(int i) {
            return i >= 0 && i < MOST_BYTES ? bytes[i] & 255 : 0;
        }

        /** Finds all TOKENS that begin ahead of the most bytes, and what ends them. */
        void begin(int mostBytes) {
            fault = 0;
            place = 0;
            tokens = 0;
            int limit = Math.min(length, mostBytes);
            int next = behindBlanks(0);
            for (int k = 0; k < MOST_BYTES && next < limit; k++) {
                next = behindBlanks(readToken(next));
            }
            addToken(length > mostBytes ? NO_TOKEN : END, limit, 0, null);
            current = -1;
            step();
        }

        private int behindBlanks(int from) {
            int next = from;
            while (next < length && (byteOf(next) == 32 || byteOf(next) == 10)) {
                next++;
            }
            return next;
        }

        private int readToken(int from) {
            int sign = byteOf(from);
            if (isLetter(sign) || isDigit(sign)) {
                return readRun(from);
            }
            boolean told = sign == ';' || sign == '<' || sign == '=' || sign == '>' || sign == '(' || sign == ')';
            addToken(told ? sign : NO_TOKEN, from, 0, null);
            return from + 1;
        }

        private int readRun(int from) {
            int letters = 0;
            long name = 0;
            int digits = 0;
            int number = 0;
            int next = from;
            while (next < length && (isLetter(byteOf(next)) || isDigit(byteOf(next)))) {
                int sign = byteOf(next);
                if (isLetter(sign)) {
                    letters++;
                    name = name * 32 + (sign - 96);
                } else {
                    digits++;
                    number = number * 10 + (sign - '0');
                }
                next++;
            }
            if (digits == 0 && letters <= 7) {
                addToken(WORD, from, name, wordOf(name));
            } else if (letters == 0 && digits <= 3) {
                addToken(NUMBER, from, number, null);
            } else {
                addToken(NO_TOKEN, from, 0, null);
            }
            return next;
        }

        private void addToken(int sort, int start, long content, Word word) {
            if (tokens < kinds.length) {
                kinds[tokens] = sort;
                starts[tokens] = start;
                values[tokens] = content;
                words[tokens] = word;
                tokens++;
            }
        }

        private static Word wordOf(long name) {
            for (int k = 0; k < WORDS.length; k++) {
                if (WORDS[k].code == name) {
                    return WORDS[k];
                }
            }
            return null;
        }

        private static boolean isLetter(int sign) {
            return sign >= 'a' && sign <= 'z';
        }

        private static boolean isDigit(int sign) {
            return sign >= '0' && sign <= '9';
        }

        /** Goes to the next TOKEN; the last one, which ends the text, stays. */
        void step() {
            if (current < tokens - 1) {
                current++;
                kind = kinds[current];
                value = values[current];
                known = words[current];
            }
        }

        /** Always false, so that a reader can end with it. */
        boolean refuse(int why) {
            if (fault == 0 && current >= 0 && current < tokens) {
                fault = why;
                place = starts[current];
            }
            return false;
        }

        boolean atEnd() {
            return kind == END;
        }

        boolean atName() {
            return kind == WORD && known == null;
        }

        boolean takeSign(int sign) {
            if (kind != sign) {
                return refuse(CANT_COME);
            }
            step();
            return true;
        }

        boolean takeWord(Word word) {
            if (known != word) {
                return refuse(CANT_COME);
            }
            step();
            return true;
        }

        /** The NUMBER, or NONE behind a FAULT. */
        int takeNumber(int least, int highest) {
            if (kind != NUMBER) {
                refuse(CANT_COME);
                return NONE;
            }
            if (value < least || value > highest) {
                refuse(BAD_NUMBER);
                return NONE;
            }
            int number = (int) value;
            step();
            return number;
        }

        /** The LAND named here, or NONE behind a FAULT; the TOKEN stays, as a reader may find more wrong with it. */
        int landHere(Chart chart) {
            int land = atName() ? chart.landNamed(value) : NONE;
            if (land == NONE) {
                refuse(atName() ? BAD_NAME : CANT_COME);
            }
            return land;
        }

        int personHere(Chart chart) {
            int person = atName() ? chart.personNamed(value) : NONE;
            if (person == NONE) {
                refuse(atName() ? BAD_NAME : CANT_COME);
            }
            return person;
        }

        /** The LAND named here, read past, or NONE behind a FAULT. */
        int takeLand(Chart chart) {
            int land = landHere(chart);
            if (land != NONE) {
                step();
            }
            return land;
        }
    }

    /** What a MAP tells once for all: nothing in it changes once it has been read, so states share it. */
    private static final class Chart {
        int lands = 0;
        int roads = 0;
        int persons = 0;
        final long[] landName = new long[MOST_LANDS];
        final int[] take = new int[MOST_LANDS];
        final int[] give = new int[MOST_LANDS];
        final int[] first = new int[MOST_ROADS];
        final int[] second = new int[MOST_ROADS];
        final int[] low = new int[MOST_ROADS];
        final int[] high = new int[MOST_ROADS];
        // By two LANDS the number of their ROAD and 1, so that 0 is none.
        final int[] between = new int[MOST_LANDS * MOST_LANDS];
        final long[] personName = new long[MOST_PERSONS];
        final int[] home = new int[MOST_PERSONS];

        void addLand(long name, int takes, int gives) {
            if (lands < MOST_LANDS) {
                landName[lands] = name;
                take[lands] = takes;
                give[lands] = gives;
                lands++;
            }
        }

        void addRoad(int a, int b, int shortest, int longest) {
            if (roads < MOST_ROADS) {
                first[roads] = a;
                second[roads] = b;
                low[roads] = shortest;
                high[roads] = longest;
                roads++;
                between[a * MOST_LANDS + b] = roads;
                between[b * MOST_LANDS + a] = roads;
            }
        }

        void addPerson(long name, int land) {
            if (persons < MOST_PERSONS) {
                personName[persons] = name;
                home[persons] = land;
                persons++;
            }
        }

        int landNamed(long name) {
            for (int l = 0; l < lands; l++) {
                if (landName[l] == name) {
                    return l;
                }
            }
            return NONE;
        }

        int personNamed(long name) {
            for (int p = 0; p < persons; p++) {
                if (personName[p] == name) {
                    return p;
                }
            }
            return NONE;
        }

        int roadBetween(int a, int b) {
            return between[a * MOST_LANDS + b] - 1;
        }

        /** What a LAND takes of one who comes in, by his HOME and the LANDS that spare its own. */
        int toll(int land, int homeLand, int sparing) {
            return land == homeLand || hasBit(sparing, land) ? 0 : take[land];
        }

        int gift(int land, int homeLand, int store, int length) {
            return land == homeLand ? Math.min(Math.min(give[land], store), LONGEST - length) : 0;
        }

        int whyNotOver(int from, int to, int length, int toll, int closed) {
            int r = roadBetween(from, to);
            if (r < 0) {
                return 1;
            }
            if (hasBit(closed, r)) {
                return 2;
            }
            if (length < low[r]) {
                return 3;
            }
            if (length > high[r]) {
                return 4;
            }
            return toll >= length ? 5 : 0;
        }

        boolean areParted(int a, int b, int closed) {
            int reached = 1 << a;
            for (int k = 1; k < lands; k++) {
                for (int r = 0; r < roads; r++) {
                    int ends = 1 << first[r] | 1 << second[r];
                    if (!hasBit(closed, r) && (reached & ends) != 0) {
                        reached |= ends;
                    }
                }
            }
            return !hasBit(reached, b);
        }
    }

    /** All that is so on a DAY, on a MAP and with a SENTENCE. */
    private static final class State {
        Chart chart;
        Sentence sentence = null;
        final int[] store = new int[MOST_LANDS];
        final int[] spares = new int[MOST_LANDS];
        int closed = 0;
        int day = 0;
        final int[] at = new int[MOST_PERSONS];
        final int[] length = new int[MOST_PERSONS];
        final int[] taken = new int[MOST_PERSONS];
        final int[] given = new int[MOST_PERSONS];
        final int[] crossed = new int[MOST_PERSONS];
        // What the draws go on from; it tells nothing between two calls.
        int seed = 0;

        State(Chart map) {
            chart = map;
        }

        void clear(Chart map) {
            chart = map;
            sentence = null;
            closed = 0;
            day = 0;
            for (int l = 0; l < MOST_LANDS; l++) {
                store[l] = 0;
                spares[l] = 0;
            }
            for (int p = 0; p < MOST_PERSONS; p++) {
                at[p] = 0;
                length[p] = 0;
                taken[p] = 0;
                given[p] = 0;
                crossed[p] = 0;
            }
        }

        void copy(State other) {
            chart = other.chart;
            sentence = other.sentence;
            closed = other.closed;
            day = other.day;
            for (int l = 0; l < MOST_LANDS; l++) {
                store[l] = other.store[l];
                spares[l] = other.spares[l];
            }
            for (int p = 0; p < MOST_PERSONS; p++) {
                at[p] = other.at[p];
                length[p] = other.length[p];
                taken[p] = other.taken[p];
                given[p] = other.given[p];
                crossed[p] = other.crossed[p];
            }
        }

        int whyNot(int act, int a, int b, int n) {
            switch (act) {
                case CROSSING: return whyNotOver(a, b);
                case PACTING: return a == b ? 1 : hasBit(spares[a], b) ? 2 : 0;
                case BREAKING: return hasBit(spares[a], b) ? 0 : 1;
                case CLOSING: return a >= chart.roads ? 1 : hasBit(closed, a) ? 2 : 0;
                case OPENING: return a >= chart.roads ? 1 : hasBit(closed, a) ? 0 : 2;
                case LENDING: return a == b ? 1 : store[a] < n ? 2 : 0;
                default: return LAST_DAY - day < n ? 1 : 0;
            }
        }

        void perform(int act, int a, int b, int n) {
            switch (act) {
                case CROSSING:
                    goOver(a, b);
                    break;
                case PACTING:
                    spares[a] |= 1 << b;
                    break;
                case BREAKING:
                    spares[a] &= ~(1 << b);
                    break;
                case CLOSING:
                case OPENING:
                    turnRoad(a);
                    break;
                case LENDING:
                    store[a] -= n;
                    store[b] += n;
                    break;
                default:
                    for (int k = 0; k < n; k++) {
                        goDay();
                    }
            }
        }

        private void turnRoad(int r) {
            closed ^= 1 << r;
        }

        int whyNotOver(int p, int l) {
            int home = chart.home[p];
            int toll = chart.toll(l, home, spares[home]);
            return chart.whyNotOver(at[p], l, length[p], toll, closed);
        }

        private void goOver(int p, int l) {
            int home = chart.home[p];
            int toll = chart.toll(l, home, spares[home]);
            int gift = chart.gift(l, home, store[l], length[p]);
            store[l] += toll - gift;
            length[p] += gift - toll;
            taken[p] += toll;
            given[p] += gift;
            crossed[p]++;
            at[p] = l;
        }

        int whither(int p) {
            int bits = 0;
            for (int l = 0; l < chart.lands; l++) {
                if (whyNotOver(p, l) == 0) {
                    bits |= 1 << l;
                }
            }
            return bits;
        }

        boolean isHome(int p) {
            return at[p] == chart.home[p];
        }

        private boolean grows(int p) {
            return isHome(p) && length[p] < LONGEST && store[at[p]] > 0;
        }

        boolean somebodyGrows() {
            for (int p = 0; p < chart.persons; p++) {
                if (grows(p)) {
                    return true;
                }
            }
            return false;
        }

        void goDay() {
            for (int p = 0; p < chart.persons; p++) {
                if (grows(p)) {
                    store[at[p]]--;
                    length[p]++;
                }
            }
            day++;
        }

        int drawDays(int n, int from) {
            seed = from;
            int gone = 0;
            while (gone < n && day < LAST_DAY) {
                drawDay();
                gone++;
            }
            return gone;
        }

        private void drawDay() {
            if (draw(4) == 0 && chart.roads > 0) {
                turnRoad(draw(chart.roads));
            }
            for (int p = 0; p < chart.persons; p++) {
                int l = draw(chart.lands);
                if (whyNotOver(p, l) == 0) {
                    goOver(p, l);
                }
            }
            goDay();
        }

        private int draw(int n) {
            if (n < 1) {
                return 0;
            }
            seed = seed * 1103515245 + 12345;
            return (seed >>> 8) % n;
        }

        int allLengths() {
            int sum = 0;
            for (int p = 0; p < chart.persons; p++) {
                sum += length[p];
            }
            return sum;
        }

        int allStores() {
            int sum = 0;
            for (int l = 0; l < chart.lands; l++) {
                sum += store[l];
            }
            return sum;
        }

        int allCrossings() {
            int sum = 0;
            for (int p = 0; p < chart.persons; p++) {
                sum += crossed[p];
            }
            return sum;
        }

        int atHome() {
            int bits = 0;
            for (int p = 0; p < chart.persons; p++) {
                if (isHome(p)) {
                    bits |= 1 << p;
                }
            }
            return bits;
        }

        int stuck() {
            int bits = 0;
            for (int p = 0; p < chart.persons; p++) {
                if (whither(p) == 0) {
                    bits |= 1 << p;
                }
            }
            return bits;
        }

        int personsIn(int l) {
            int bits = 0;
            for (int p = 0; p < chart.persons; p++) {
                if (at[p] == l) {
                    bits |= 1 << p;
                }
            }
            return bits;
        }

        int treaties() {
            int sum = 0;
            for (int l = 0; l < chart.lands; l++) {
                sum += Integer.bitCount(spares[l]);
            }
            return sum;
        }
    }

    /** Reads a MAP into a state that has been cleared for it. */
    private static final class MapText {
        private final Tape tape;
        private final State state;
        private int stored = 0;

        MapText(Tape text, State fresh) {
            tape = text;
            state = fresh;
        }

        /** How many LINES there are; the tape tells if there is a FAULT. */
        int read() {
            stored = 0;
            tape.begin(MAP_BYTES);
            int lines = 0;
            while (lines < MOST_BYTES && !tape.atEnd()) {
                if (!readLine() || !tape.takeSign(';')) {
                    return lines;
                }
                lines++;
            }
            return lines;
        }

        private boolean readLine() {
            if (tape.known == null) {
                return tape.refuse(CANT_COME);
            }
            switch (tape.known) {
                case LAND: return readLand();
                case STORE: return readStore();
                case ROAD: return readRoad();
                case TREATY: return readTreaty();
                case PERSON: return readPerson();
                default: return tape.refuse(CANT_COME);
            }
        }

        private boolean isNewName() {
            if (!tape.atName()) {
                return tape.refuse(CANT_COME);
            }
            boolean told = state.chart.landNamed(tape.value) != NONE || state.chart.personNamed(tape.value) != NONE;
            return told ? tape.refuse(BAD_NAME) : true;
        }

        private boolean readLand() {
            if (state.chart.lands >= MOST_LANDS) {
                return tape.refuse(TOO_MANY);
            }
            tape.step();
            if (!isNewName()) {
                return false;
            }
            long name = tape.value;
            tape.step();
            int take = tape.takeNumber(0, MOST_TAKE);
            if (take == NONE) {
                return false;
            }
            int give = tape.takeNumber(0, MOST_TAKE);
            if (give == NONE) {
                return false;
            }
            state.chart.addLand(name, take, give);
            return true;
        }

        private boolean readStore() {
            tape.step();
            int l = tape.landHere(state.chart);
            if (l == NONE) {
                return false;
            }
            if (hasBit(stored, l)) {
                return tape.refuse(BAD_NAME);
            }
            tape.step();
            int n = tape.takeNumber(0, MOST_STORE);
            if (n == NONE) {
                return false;
            }
            stored |= 1 << l;
            state.store[l] = n;
            return true;
        }

        private boolean readRoad() {
            if (state.chart.roads >= MOST_ROADS) {
                return tape.refuse(TOO_MANY);
            }
            tape.step();
            int a = tape.takeLand(state.chart);
            if (a == NONE) {
                return false;
            }
            int b = tape.landHere(state.chart);
            if (b == NONE) {
                return false;
            }
            if (a == b || state.chart.roadBetween(a, b) >= 0) {
                return tape.refuse(BAD_NAME);
            }
            tape.step();
            int low = tape.takeNumber(0, LONGEST);
            if (low == NONE) {
                return false;
            }
            int high = tape.takeNumber(low, LONGEST);
            if (high == NONE) {
                return false;
            }
            state.chart.addRoad(a, b, low, high);
            return true;
        }

        private boolean readTreaty() {
            tape.step();
            int a = tape.takeLand(state.chart);
            if (a == NONE) {
                return false;
            }
            int b = tape.landHere(state.chart);
            if (b == NONE) {
                return false;
            }
            if (a == b || hasBit(state.spares[a], b)) {
                return tape.refuse(BAD_NAME);
            }
            tape.step();
            state.spares[a] |= 1 << b;
            return true;
        }

        private boolean readPerson() {
            int p = state.chart.persons;
            if (p >= MOST_PERSONS) {
                return tape.refuse(TOO_MANY);
            }
            tape.step();
            if (!isNewName()) {
                return false;
            }
            long name = tape.value;
            tape.step();
            int home = tape.takeLand(state.chart);
            if (home == NONE) {
                return false;
            }
            int length = tape.takeNumber(1, LONGEST);
            if (length == NONE) {
                return false;
            }
            state.chart.addPerson(name, home);
            state.at[p] = home;
            state.length[p] = length;
            return true;
        }
    }

    /** The LINES of a BOOK as acts, and why the first WRONG one was so. */
    private static final class Book {
        private final Tape tape;
        private Chart chart;
        private final int[] act = new int[MOST_LINES];
        private final int[] first = new int[MOST_LINES];
        private final int[] second = new int[MOST_LINES];
        private final int[] amount = new int[MOST_LINES];
        private int lines = 0;
        int why = 0;

        Book(Tape text, Chart map) {
            tape = text;
            chart = map;
        }

        void read(Chart map) {
            chart = map;
            lines = 0;
            tape.begin(BOOK_BYTES);
            boolean reads = true;
            while (reads && lines <= MOST_LINES && !tape.atEnd()) {
                reads = readLine() && tape.takeSign(';');
                lines++;
            }
        }

        private boolean readLine() {
            if (tape.atName()) {
                return readCrossing();
            }
            if (tape.known == null) {
                return tape.refuse(CANT_COME);
            }
            switch (tape.known) {
                case PACT: return beginLine(PACTING) && readTwo();
                case BREAK: return beginLine(BREAKING) && readTwo();
                case CLOSE: return beginLine(CLOSING) && readRoad();
                case OPEN: return beginLine(OPENING) && readRoad();
                case LEND: return beginLine(LENDING) && readTwo() && readAmount(MOST_STORE);
                case DAY: return beginLine(DAYS_GOING) && readAmount(MOST_DAYS);
                default: return tape.refuse(CANT_COME);
            }
        }

        /** Steps past the LINE's first WORD. */
        private boolean beginLine(int kind) {
            if (lines >= MOST_LINES) {
                return tape.refuse(TOO_MANY);
            }
            act[lines] = kind;
            tape.step();
            return true;
        }

        private boolean readCrossing() {
            int p = tape.personHere(chart);
            if (p == NONE || !beginLine(CROSSING) || !tape.takeWord(Word.CROSSES)) {
                return false;
            }
            int l = tape.takeLand(chart);
            first[lines] = p;
            second[lines] = l;
            return l != NONE;
        }

        private boolean readTwo() {
            int a = tape.takeLand(chart);
            if (a == NONE) {
                return false;
            }
            int b = tape.takeLand(chart);
            first[lines] = a;
            second[lines] = b;
            return b != NONE;
        }

        private boolean readRoad() {
            int r = tape.takeNumber(0, MOST_ROADS - 1);
            first[lines] = r;
            return r != NONE;
        }

        private boolean readAmount(int most) {
            int n = tape.takeNumber(1, most);
            amount[lines] = n;
            return n != NONE;
        }

        /** Lives the LINES as far as they are not WRONG: how many are not. */
        int live(State state) {
            why = 0;
            for (int k = 0; k < lines && k < MOST_LINES; k++) {
                int cause = state.whyNot(act[k], first[k], second[k], amount[k]);
                if (cause != 0) {
                    why = act[k] * 10 + cause;
                    return k;
                }
                state.perform(act[k], first[k], second[k], amount[k]);
            }
            return lines;
        }
    }

    /** A SENTENCE with what joins two ONES behind both, so that it is said without brackets. */
    private static final class Sentence {
        // Of 20 ONES at most 19 are joined to one ahead.
        private static final int MOST_STEPS = 2 * MOST_ONES;

        private final Tape tape;
        private final Chart chart;
        private final Word[] what = new Word[MOST_STEPS];
        private final int[] sign = new int[MOST_STEPS];
        private final int[] value = new int[MOST_STEPS];
        private int steps = 0;
        private final int[] open = new int[MOST_STEPS];
        int ones = 0;

        Sentence(Tape text, Chart map) {
            tape = text;
            chart = map;
        }

        void read() {
            tape.begin(SENTENCE_BYTES);
            if (readCond(1) && !tape.atEnd()) {
                tape.refuse(CANT_COME);
            }
        }

        private boolean readCond(int depth) {
            boolean reads = readAll(depth);
            for (int k = 0; k < MOST_ONES && reads && tape.known == Word.OR; k++) {
                tape.step();
                reads = readAll(depth) && addStep(Word.OR, 0, 0);
            }
            return reads;
        }

        private boolean readAll(int depth) {
            boolean reads = readOne(depth);
            for (int k = 0; k < MOST_ONES && reads && tape.known == Word.AND; k++) {
                tape.step();
                reads = readOne(depth) && addStep(Word.AND, 0, 0);
            }
            return reads;
        }

        private boolean readOne(int depth) {
            boolean bracket = tape.kind == '(';
            Word word = tape.known;
            if (!bracket && !beginsOne(word)) {
                return tape.refuse(CANT_COME);
            }
            if (ones >= MOST_ONES || depth > DEEPEST_ONE) {
                return tape.refuse(TOO_MANY);
            }
            ones++;
            tape.step();
            if (bracket) {
                return readCond(depth + 1) && tape.takeSign(')');
            }
            if (word == Word.NOT) {
                return readOne(depth + 1) && addStep(Word.NOT, 0, 0);
            }
            if (word == Word.HOME || word == Word.STUCK) {
                return addStep(word, 0, 0);
            }
            if (word == Word.IN || word == Word.OF || word == Word.FREE) {
                int l = tape.takeLand(chart);
                return l != NONE && addStep(word, 0, l);
            }
            return readMeasure(word);
        }

        private static boolean beginsOne(Word word) {
            if (word == null) {
                return false;
            }
            switch (word) {
                case NOT:
                case HOME:
                case STUCK:
                case IN:
                case OF:
                case FREE:
                case LENGTH:
                case TAKEN:
                case CROSSED:
                case NUMBER:
                    return true;
                default:
                    return false;
            }
        }

        private boolean readMeasure(Word word) {
            int compares = tape.kind;
            if (compares != '<' && compares != '=' && compares != '>') {
                return tape.refuse(CANT_COME);
            }
            tape.step();
            int n = tape.takeNumber(0, 999);
            return n != NONE && addStep(word, compares, n);
        }

        private boolean addStep(Word word, int compares, int number) {
            if (steps >= MOST_STEPS) {
                return tape.refuse(TOO_MANY);
            }
            what[steps] = word;
            sign[steps] = compares;
            value[steps] = number;
            steps++;
            return true;
        }

        /** The PERSONS of whom it may be said, as bits. */
        int persons(State state) {
            int every = (1 << state.chart.persons) - 1;
            int top = 0;
            for (int k = 0; k < steps; k++) {
                Word word = what[k];
                if (word == Word.NOT && top > 0) {
                    open[top - 1] ^= every;
                } else if (word == Word.AND && top > 1) {
                    top--;
                    open[top - 1] &= open[top];
                } else if (word == Word.OR && top > 1) {
                    top--;
                    open[top - 1] |= open[top];
                } else if (top < MOST_STEPS) {
                    open[top] = personsBy(state, k);
                    top++;
                }
            }
            return top > 0 ? open[0] : 0;
        }

        private int personsBy(State state, int k) {
            int bits = 0;
            for (int p = 0; p < state.chart.persons; p++) {
                if (holds(state, p, k)) {
                    bits |= 1 << p;
                }
            }
            return bits;
        }

        private boolean holds(State state, int p, int k) {
            Word word = what[k];
            if (word == null) {
                return false;
            }
            switch (word) {
                case HOME: return state.isHome(p);
                case STUCK: return state.whither(p) == 0;
                case IN: return state.at[p] == value[k];
                case OF: return state.chart.home[p] == value[k];
                case FREE: return hasBit(state.spares[state.chart.home[p]], value[k]);
                case LENGTH: return compare(state.length[p], k);
                case TAKEN: return compare(state.taken[p], k);
                case CROSSED: return compare(state.crossed[p], k);
                default: return compare(p, k);
            }
        }

        private boolean compare(int measure, int k) {
            if (sign[k] == '<') {
                return measure < value[k];
            }
            return sign[k] == '=' ? measure == value[k] : measure > value[k];
        }
    }

    /** All rows of CROSSINGS of one PERSON alone, LAND by LAND, with what each search looks for in them. */
    private static final class Walk {
        private static final int WAY = 0;
        private static final int ROUND = 1;
        private static final int MADE = 2;

        private Chart chart;
        private int home = 0;
        private int sparing = 0;
        private int closed = 0;
        private int goal = WAY;
        private int target = 0;
        private int need = 0;
        private int most = 0;
        private final int[] row = new int[WAY_CROSSINGS];
        private final int[] ends = new int[MOST_LANDS];
        private int rows = 0;
        private int longest = NONE;
        final Row best = new Row(WAY_CROSSINGS);

        Walk(Chart map) {
            chart = map;
        }

        /** Whether there is a WAY, if his HOME had TREATIES with those LANDS besides. */
        boolean findWay(State state, int p, int besides, int land, int length) {
            goal = WAY;
            target = land;
            need = length;
            search(state, p, besides, WAY_CROSSINGS);
            return rows > 0;
        }

        int longestRound(State state, int p) {
            goal = ROUND;
            target = state.at[p];
            search(state, p, 0, WAY_CROSSINGS);
            return longest;
        }

        int countRows(State state, int p, int length) {
            goal = MADE;
            need = length;
            search(state, p, 0, MADE_CROSSINGS);
            return rows;
        }

        int likeliestEnd() {
            int likeliest = 0;
            for (int l = 1; l < MOST_LANDS; l++) {
                if (ends[l] > ends[likeliest]) {
                    likeliest = l;
                }
            }
            return likeliest;
        }

        private void search(State state, int p, int besides, int crossings) {
            chart = state.chart;
            home = chart.home[p];
            sparing = state.spares[home] | besides;
            closed = state.closed;
            most = crossings;
            rows = 0;
            longest = NONE;
            for (int l = 0; l < MOST_LANDS; l++) {
                ends[l] = 0;
            }
            goOn(state.at[p], state.length[p], state.store[home], 0);
        }

        /** Of all stores his HOME's alone matters to him: no other LAND gives to him. */
        private void goOn(int at, int length, int store, int depth) {
            look(at, length, depth);
            for (int l = 0; l < chart.lands && depth < most && depth < row.length; l++) {
                // The last CROSSING of a WAY can only be to where it leads.
                if (goal == WAY && depth + 1 == most && l != target) {
                    continue;
                }
                int toll = chart.toll(l, home, sparing);
                if (chart.whyNotOver(at, l, length, toll, closed) == 0) {
                    int gift = chart.gift(l, home, store, length);
                    row[depth] = l;
                    goOn(l, length - toll + gift, store - gift, depth + 1);
                }
            }
        }

        private void look(int at, int length, int depth) {
            if (goal == WAY && at == target && length >= need) {
                note(at, depth);
                most = depth - 1;
            } else if (goal == ROUND && depth > 0 && at == target) {
                longest = Math.max(longest, length);
            } else if (goal == MADE && depth > 0 && length == need) {
                note(at, depth);
            }
        }

        /** Rows as long as one another come LAND by LAND, so the first of the fewest CROSSINGS stays. */
        private void note(int at, int depth) {
            if (rows == 0 || depth < best.length) {
                best.take(row, depth);
            }
            rows++;
            ends[at]++;
        }
    }

    /** All orders of those who could CROSS to a LAND: what one of them does never bars another, so all go over. */
    private static final class Caravan {
        private State state;
        private Chart chart;
        private int target = 0;
        private int goers = 0;
        private int size = 0;
        private final int[] row = new int[MOST_PERSONS];
        private int longest = NONE;
        final Row best = new Row(MOST_PERSONS);

        Caravan(State from) {
            state = from;
            chart = from.chart;
        }

        int longestTogether(State from, int land) {
            state = from;
            chart = from.chart;
            target = land;
            goers = 0;
            longest = NONE;
            for (int p = 0; p < chart.persons; p++) {
                if (state.whyNotOver(p, target) == 0) {
                    goers |= 1 << p;
                }
            }
            size = Integer.bitCount(goers);
            goOn(state.store[target], state.allLengths(), 0, 0);
            return longest;
        }

        private void goOn(int store, int together, int gone, int depth) {
            if (depth >= size || depth >= row.length) {
                if (together > longest) {
                    longest = together;
                    best.take(row, depth);
                }
                return;
            }
            for (int p = 0; p < chart.persons; p++) {
                if (hasBit(goers & ~gone, p)) {
                    int home = chart.home[p];
                    int toll = chart.toll(target, home, state.spares[home]);
                    int gift = chart.gift(target, home, store, state.length[p]);
                    row[depth] = p;
                    goOn(store + toll - gift, together - toll + gift, gone | 1 << p, depth + 1);
                }
            }
        }
    }

    /** Numbers that a call told last. */
    private static final class Row {
        private final int[] cells;
        int length = 0;

        Row(int most) {
            cells = new int[Math.max(most, 0)];
        }

        int at(int k) {
            return k >= 0 && k < length && k < cells.length ? cells[k] : NONE;
        }

        void add(int number) {
            if (length < cells.length) {
                cells[length] = number;
                length++;
            }
        }

        void take(int[] numbers, int many) {
            length = 0;
            for (int k = 0; k < many && k < numbers.length; k++) {
                add(numbers[k]);
            }
        }

        void copy(Row other) {
            take(other.cells, other.length);
        }

        void addText(String text) {
            for (int i = 0; i < text.length(); i++) {
                add(text.charAt(i));
            }
        }

        void addName(long name) {
            for (int shift = 30; shift >= 0; shift -= 5) {
                int letter = (int) (name >>> shift) & 31;
                if (letter != 0) {
                    add(96 + letter);
                }
            }
        }

        /** A number of three digits at most. */
        void addDigits(int number) {
            if (number >= 100) {
                add('0' + number / 100);
            }
            if (number >= 10) {
                add('0' + number / 10 % 10);
            }
            add('0' + number % 10);
        }
    }
}
