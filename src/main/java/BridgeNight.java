import java.util.Arrays;

/**
 * A bridge in a night: works told by texts, the hours at which they begin and all ends, the order
 * in which they should be begun, the way back, and trains that come out of dead ends.
 */
public final class BridgeNight {
    public static final int NONE = -1;

    private static final int WORKS_AT_MOST = 16;
    private static final int WORKS_OF_BEST = 7;
    private static final int DRAWS_AT_MOST = 20;
    private static final int NOISE_AT_MOST = 20;
    private static final int TAPE_AT_MOST = 200;
    private static final int BYTES_OF_FEED = 20;
    private static final int TRAINS_AT_MOST = 30;
    private static final int CREW_AT_MOST = 60;
    private static final int HOUR_AT_MOST = 1000;
    private static final int NUMBER_AT_MOST = 1000;

    /** Above every END: 16 works of 40 hours, one behind another, take 640. */
    private static final int BEYOND_ALL_HOURS = 1000000;

    private static final int ROW_LEAST = 0;
    private static final int ROW_MOST = 1;
    private static final int FIRST_DRAW = 2;

    private final Tape tape = new Tape();
    private final Site site = new Site();
    private final Search search = new Search();
    private final Yard yard = new Yard();
    private final int[] noiseNumbers = new int[NOISE_AT_MOST];
    private int noiseCount = 0;
    private int limit = 100;

    public BridgeNight() {
    }

    public int feed(int a, int b, int c, int d, int e) {
        if (tape.filled + BYTES_OF_FEED > TAPE_AT_MOST) {
            return NONE;
        }
        tape.put(a);
        tape.put(b);
        tape.put(c);
        tape.put(d);
        tape.put(e);
        return tape.filled;
    }

    public int work(int n) throws IllegalArgumentException, IllegalStateException {
        if (n < 0 || n > tape.filled) {
            throw new IllegalArgumentException("not so many bytes on the tape");
        }
        if (site.size >= WORKS_AT_MOST) {
            throw new IllegalStateException("there are 16 works");
        }
        int kind = tape.read(n, site.size);
        return kind == Tape.NO_FAULT ? site.add(tape.draft) : kind - 10;
    }

    public int fault() {
        return tape.place;
    }

    public int told(int work, int what) throws IndexOutOfBoundsException, IllegalArgumentException {
        if (!site.hasWork(work)) {
            throw new IndexOutOfBoundsException("no such work");
        }
        Work asked = site.works[work];
        switch (what) {
            case 0:
                return asked.least;
            case 1:
                return asked.most;
            case 2:
                return asked.thing;
            case 3:
                return asked.hands;
            case 4:
                return asked.back;
            case 5:
                return asked.after;
            default:
                throw new IllegalArgumentException("nothing such is told of a work");
        }
    }

    public int set(int what, int v) throws IllegalArgumentException {
        if (what == 0 && v >= 1 && v <= CREW_AT_MOST) {
            int was = site.crew;
            site.crew = v;
            return was;
        }
        if (what == 1 && v >= 0 && v <= HOUR_AT_MOST) {
            int was = limit;
            limit = v;
            return was;
        }
        throw new IllegalArgumentException("neither a crew nor a limit");
    }

    public int noise(int v) {
        if (noiseCount >= NOISE_AT_MOST) {
            return NONE;
        }
        noiseNumbers[noiseCount] = v;
        noiseCount++;
        return noiseCount;
    }

    public int draw() {
        if (site.draws >= DRAWS_AT_MOST) {
            return -1;
        }
        if (noiseCount < site.size) {
            return -2;
        }
        noiseCount = 0;
        return site.addDraw(noiseNumbers);
    }

    public int hours(int row, int work) throws IndexOutOfBoundsException, IllegalArgumentException {
        if (!site.hasWork(work)) {
            throw new IndexOutOfBoundsException("no such work");
        }
        if (!site.hasRow(row)) {
            throw new IllegalArgumentException("no such row");
        }
        return site.rows[row].hours[work];
    }

    public int end(int row) throws IllegalArgumentException {
        if (!site.hasRow(row)) {
            throw new IllegalArgumentException("no such row");
        }
        return site.walk(row, site.sequence);
    }

    public int begins(int row, int work) throws IndexOutOfBoundsException, IllegalArgumentException {
        if (!site.hasWork(work)) {
            throw new IndexOutOfBoundsException("no such work");
        }
        if (!site.hasRow(row)) {
            throw new IllegalArgumentException("no such row");
        }
        site.walk(row, site.sequence);
        return site.rows[row].starts[work];
    }

    public int best() {
        if (site.size > WORKS_OF_BEST || site.walk(ROW_MOST, site.sequence) == NONE) {
            return NONE;
        }
        search.find(site);
        System.arraycopy(search.found, 0, site.sequence, 0, site.size);
        return search.endByMost;
    }

    public int order(int k) {
        return k >= 0 && k < site.size ? site.sequence[k] : NONE;
    }

    public int move(int work, int k) throws IndexOutOfBoundsException, IllegalArgumentException {
        if (!site.hasWork(work)) {
            throw new IndexOutOfBoundsException("no such work");
        }
        if (k < 0 || k >= site.size) {
            throw new IllegalArgumentException("no such place");
        }
        return site.shift(work, k);
    }

    public int part() {
        site.walkDraws();
        return site.drawsWithin(limit);
    }

    public int on() {
        site.walkDraws();
        return site.lateEnds(limit);
    }

    public int off(int hour) throws IllegalArgumentException {
        if (hour < 0 || hour > HOUR_AT_MOST) {
            throw new IllegalArgumentException("no such hour");
        }
        site.walkDraws();
        return site.lateBacks(hour, limit);
    }

    /**
     * BACK never falls from an hour to the next, and where it is missing it is so at all later
     * hours; at hour 0 nothing is begun, and OFF is 0. So the hours that hold are the first ones,
     * and steps that halve find the last of them.
     */
    public int last() {
        if (site.draws == 0) {
            return NONE;
        }
        site.walkDraws();
        int late = site.lateEnds(limit);
        int hour = 0;
        for (int step = 512; step > 0; step >>= 1) {
            if (hour + step <= HOUR_AT_MOST && isOffHeld(hour + step, late)) {
                hour += step;
            }
        }
        return hour;
    }

    private boolean isOffHeld(int hour, int lateOn) {
        int lateOff = site.lateBacks(hour, limit);
        return lateOff != NONE && (lateOn == NONE || lateOff <= lateOn);
    }

    public int train(int number) throws IllegalArgumentException {
        if (number < 0 || number > NUMBER_AT_MOST) {
            throw new IllegalArgumentException("no number of a train");
        }
        if (yard.trains >= TRAINS_AT_MOST) {
            return -1;
        }
        return yard.has(number) ? -2 : yard.take(number);
    }

    public int ends() {
        return yard.deadEnds;
    }

    public int leave() {
        int left = yard.trains;
        yard.clear();
        return left;
    }

    public int out(int k) {
        return yard.deadEndOf(k);
    }

    public int count(int what) {
        switch (what) {
            case 0:
                return site.size;
            case 1:
                return site.draws;
            case 2:
                return noiseCount;
            case 3:
                return yard.trains;
            case 4:
                return tape.filled;
            default:
                return NONE;
        }
    }

    /** What a text tells of a WORK. */
    private static final class Work {
        int least;
        int most;
        int thing;
        int hands;
        int back = NONE;
        int after;
        /** The THING as a bit, 0 without: so one look tells whether a THING is in use. */
        int thingBit;

        void clear() {
            least = 0;
            most = 0;
            thing = 0;
            hands = 0;
            back = NONE;
            after = 0;
            thingBit = 0;
        }

        void copyFrom(Work other) {
            least = other.least;
            most = other.most;
            thing = other.thing;
            hands = other.hands;
            back = other.back;
            after = other.after;
            thingBit = other.thingBit;
        }

        int drawnHours(int number) {
            int width = most - least + 1;
            return width <= 0 ? least : least + (int) ((number & 0xFFFFFFFFL) % width);
        }

        boolean isAfter(int number) {
            return (after & 1 << number) != 0;
        }

        /** Whether one that begins can keep the other from it. */
        boolean competesWith(Work other) {
            return (thingBit & other.thingBit) != 0 || hands > 0 && other.hands > 0;
        }
    }

    /** The TAPE, and the reading of a text on it from left to right, up to its first FAULT. */
    private static final class Tape {
        static final int NO_FAULT = 0;

        private static final int CANNOT_STAND = 1;
        private static final int NO_SUCH_NUMBER = 2;
        private static final int NO_HOURS = 3;

        private static final int HOURS = 0;
        private static final int NEEDS = 1;
        private static final int HANDS = 2;
        private static final int BACK = 3;
        private static final int AFTER = 4;

        /** Above every bound of a number: greater ones are kept at it, so that none overflows. */
        private static final int TOO_GREAT = 1000;

        final Work draft = new Work();
        int filled = 0;
        int place = NONE;

        private final int[] bytes = new int[TAPE_AT_MOST];
        private int length;
        private int at;
        private int value;
        private int clausesRead;
        private int earlier;
        private int kind;

        /** There is room for four bytes. */
        void put(int number) {
            for (int shift = 24; shift >= 0; shift -= 8) {
                bytes[filled] = (number >>> shift) & 255;
                filled++;
            }
        }

        /**
         * Reads the first n bytes into the draft and empties the tape: the kind of the FAULT, or
         * NO_FAULT. The tape has n bytes, and there are so many earlier WORKS. A clause takes a
         * byte at least, so there are no more of them than bytes.
         */
        int read(int n, int earlierWorks) {
            startReading(n, earlierWorks);
            skipBlanks();
            for (int c = 0; c < length && at < length && kind == NO_FAULT; c++) {
                readClause();
                skipBlanks();
            }
            if (kind == NO_FAULT && !isRead(HOURS)) {
                refuse(NO_HOURS, length);
            }
            return kind;
        }

        private void startReading(int n, int earlierWorks) {
            filled = 0;
            length = n;
            at = 0;
            clausesRead = 0;
            earlier = earlierWorks;
            kind = NO_FAULT;
            place = NONE;
            draft.clear();
        }

        private boolean readClause() {
            int from = at;
            int clause = readClauseWord();
            if (clause == NONE || isRead(clause)) {
                return refuse(CANNOT_STAND, from);
            }
            clausesRead |= 1 << clause;
            return readRest(clause) && readSign(';');
        }

        private boolean isRead(int clause) {
            return (clausesRead & 1 << clause) != 0;
        }

        private int readClauseWord() {
            int from = at;
            skipWord();
            if (spells(from, "hours")) {
                return HOURS;
            }
            if (spells(from, "needs")) {
                return NEEDS;
            }
            if (spells(from, "hands")) {
                return HANDS;
            }
            if (spells(from, "back")) {
                return BACK;
            }
            return spells(from, "after") ? AFTER : NONE;
        }

        private boolean readRest(int clause) {
            switch (clause) {
                case HOURS:
                    return readHours();
                case NEEDS:
                    return readThing();
                case HANDS:
                    return readHands();
                case BACK:
                    return readBack();
                default:
                    return readAfter();
            }
        }

        private boolean readHours() {
            if (!readNumber(1, 40)) {
                return false;
            }
            draft.least = value;
            if (!readSign('-') || !readNumber(draft.least, 40)) {
                return false;
            }
            draft.most = value;
            return true;
        }

        private boolean readThing() {
            skipBlanks();
            int from = at;
            skipWord();
            if (spells(from, "track")) {
                draft.thing = 1;
            } else if (spells(from, "crane")) {
                draft.thing = 2;
            } else if (spells(from, "hole")) {
                draft.thing = 3;
            } else {
                return refuse(CANNOT_STAND, from);
            }
            draft.thingBit = 1 << draft.thing;
            return true;
        }

        private boolean readHands() {
            if (!readNumber(0, 30)) {
                return false;
            }
            draft.hands = value;
            return true;
        }

        private boolean readBack() {
            if (!readNumber(0, 40)) {
                return false;
            }
            draft.back = value;
            return true;
        }

        /** A number takes a byte at least, so there are no more than bytes. */
        private boolean readAfter() {
            for (int n = 0; n < length && (n == 0 || isNumberNext()); n++) {
                if (!readNumber(0, earlier - 1)) {
                    return false;
                }
                draft.after |= 1 << value;
            }
            return true;
        }

        private boolean isNumberNext() {
            skipBlanks();
            return isDigitHere();
        }

        private boolean readNumber(int from, int to) {
            skipBlanks();
            int start = at;
            value = 0;
            while (at < length && isDigitHere()) {
                value = Math.min(TOO_GREAT, value * 10 + bytes[at] - '0');
                at++;
            }
            if (at == start) {
                return refuse(CANNOT_STAND, start);
            }
            return value >= from && value <= to || refuse(NO_SUCH_NUMBER, start);
        }

        private boolean isDigitHere() {
            return at < length && bytes[at] >= '0' && bytes[at] <= '9';
        }

        private boolean readSign(char sign) {
            skipBlanks();
            if (at >= length || bytes[at] != sign) {
                return refuse(CANNOT_STAND, at);
            }
            at++;
            return true;
        }

        private void skipBlanks() {
            while (at < length && bytes[at] == ' ') {
                at++;
            }
        }

        private void skipWord() {
            while (at < length && bytes[at] >= 'a' && bytes[at] <= 'z') {
                at++;
            }
        }

        /** Whether the word that has just been skipped, from a place on, is this one. */
        private boolean spells(int from, String word) {
            if (at - from != word.length()) {
                return false;
            }
            for (int i = 0; i < word.length(); i++) {
                if (bytes[from + i] != word.charAt(i)) {
                    return false;
                }
            }
            return true;
        }

        /** Answers false, so that a reading can end with it. */
        private boolean refuse(int faultKind, int where) {
            kind = faultKind;
            place = where;
            return false;
        }
    }

    /** The hours of all WORKS, and what came of them when the row was gone through the last time. */
    private static final class Row {
        final int[] hours = new int[WORKS_AT_MOST];
        final int[] starts = new int[WORKS_AT_MOST];
        int finish = NONE;
    }

    /** The WORKS, their ORDER, the CREW and the ROWS. */
    private static final class Site {
        final Work[] works = new Work[WORKS_AT_MOST];
        final int[] sequence = new int[WORKS_AT_MOST];
        final Row[] rows = new Row[FIRST_DRAW + DRAWS_AT_MOST];
        int size = 0;
        int draws = 0;
        int crew = 30;

        private final int[] stops = new int[WORKS_AT_MOST];
        private int begun;
        private int ended;
        private int thingsInUse;
        private int handsFree;

        Site() {
            for (int w = 0; w < works.length; w++) {
                works[w] = new Work();
            }
            for (int r = 0; r < rows.length; r++) {
                rows[r] = new Row();
            }
        }

        boolean hasWork(int number) {
            return number >= 0 && number < size;
        }

        boolean hasRow(int row) {
            return row >= 0 && row < FIRST_DRAW + draws;
        }

        /** There are fewer than 16 WORKS: the number of the new one. */
        int add(Work told) {
            int number = size;
            works[number].copyFrom(told);
            rows[ROW_LEAST].hours[number] = told.least;
            rows[ROW_MOST].hours[number] = told.most;
            sequence[number] = number;
            size++;
            draws = 0;
            return number;
        }

        /** There are fewer than 20 DRAWS, and a number for each WORK: the row of the new one. */
        int addDraw(int[] numbers) {
            int row = FIRST_DRAW + draws;
            for (int w = 0; w < size; w++) {
                rows[row].hours[w] = works[w].drawnHours(numbers[w]);
            }
            draws++;
            return row;
        }

        /** Puts a WORK at a place of the ORDER: the place at which it was. */
        int shift(int number, int to) {
            int from = 0;
            while (from < size - 1 && sequence[from] != number) {
                from++;
            }
            for (int k = from; k < to; k++) {
                sequence[k] = sequence[k + 1];
            }
            for (int k = from; k > to; k--) {
                sequence[k] = sequence[k - 1];
            }
            sequence[to] = number;
            return from;
        }

        /**
         * Goes through a row in an order of all WORKS: END, or NONE. A WORK that never begins
         * starts at NONE. Each turn but the last ends a WORK, so there are no more turns than that.
         */
        int walk(int row, int[] inOrder) {
            Row walked = rows[row];
            Arrays.fill(walked.starts, NONE);
            begun = 0;
            ended = 0;
            thingsInUse = 0;
            handsFree = crew;
            int hour = 0;
            for (int turn = 0; turn <= size; turn++) {
                beginAt(hour, walked, inOrder);
                if (begun == ended) {
                    break;
                }
                hour = nextStop();
                endAt(hour);
            }
            walked.finish = ended == (1 << size) - 1 ? hour : NONE;
            return walked.finish;
        }

        private void beginAt(int hour, Row walked, int[] inOrder) {
            for (int k = 0; k < size; k++) {
                int number = inOrder[k];
                if ((begun & 1 << number) == 0 && canBegin(works[number])) {
                    begun |= 1 << number;
                    thingsInUse |= works[number].thingBit;
                    handsFree -= works[number].hands;
                    walked.starts[number] = hour;
                    stops[number] = hour + walked.hours[number];
                }
            }
        }

        private boolean canBegin(Work next) {
            return (next.after & ~ended) == 0
                && (next.thingBit & thingsInUse) == 0
                && next.hands <= handsFree;
        }

        private int nextStop() {
            int next = BEYOND_ALL_HOURS;
            for (int w = 0; w < size; w++) {
                if (isRunning(w)) {
                    next = Math.min(next, stops[w]);
                }
            }
            return next;
        }

        private void endAt(int hour) {
            for (int w = 0; w < size; w++) {
                if (isRunning(w) && stops[w] == hour) {
                    ended |= 1 << w;
                    thingsInUse &= ~works[w].thingBit;
                    handsFree += works[w].hands;
                }
            }
        }

        private boolean isRunning(int number) {
            return (begun & ~ended & 1 << number) != 0;
        }

        void walkDraws() {
            for (int d = 0; d < draws; d++) {
                walk(FIRST_DRAW + d, sequence);
            }
        }

        /** PART, behind walkDraws(). */
        int drawsWithin(int limit) {
            int within = 0;
            for (int d = 0; d < draws; d++) {
                int finish = rows[FIRST_DRAW + d].finish;
                if (finish != NONE && finish <= limit) {
                    within++;
                }
            }
            return within;
        }

        /** ON, behind walkDraws(). */
        int lateEnds(int limit) {
            int sum = 0;
            for (int d = 0; d < draws; d++) {
                int finish = rows[FIRST_DRAW + d].finish;
                if (finish == NONE) {
                    return NONE;
                }
                sum += Math.max(0, finish - limit);
            }
            return draws == 0 ? NONE : sum;
        }

        /** OFF at an hour, behind walkDraws(). */
        int lateBacks(int hour, int limit) {
            int sum = 0;
            for (int d = 0; d < draws; d++) {
                int back = backFrom(hour, rows[FIRST_DRAW + d]);
                if (back == NONE) {
                    return NONE;
                }
                sum += Math.max(0, back - limit);
            }
            return draws == 0 ? NONE : sum;
        }

        private int backFrom(int hour, Row walked) {
            int sum = hour;
            for (int w = 0; w < size; w++) {
                if (walked.starts[w] != NONE && walked.starts[w] < hour) {
                    if (works[w].back == NONE) {
                        return NONE;
                    }
                    sum += works[w].back;
                }
            }
            return sum;
        }
    }

    /** Goes through the ORDERS of few WORKS, the first by numbers first, for the BEST one. */
    private static final class Search {
        final int[] found = new int[WORKS_OF_BEST];
        int endByMost;

        private final int[] trial = new int[WORKS_OF_BEST];
        private int endByLeast;
        private int knownSize = NONE;
        private int knownCrew = NONE;

        /**
         * There are 7 WORKS at most, and they have an END. No WORK ever changes: as long as there
         * is no new one, and no other CREW, what was found stands.
         */
        void find(Site site) {
            if (knownSize == site.size && knownCrew == site.crew) {
                return;
            }
            knownSize = site.size;
            knownCrew = site.crew;
            endByMost = BEYOND_ALL_HOURS;
            endByLeast = BEYOND_ALL_HOURS;
            tryFrom(site, 0, 0);
        }

        /** Tries the orders whose first works stand in the trial: how many, and which, as bits. */
        private void tryFrom(Site site, int placed, int used) {
            if (placed >= site.size || placed >= WORKS_OF_BEST) {
                judge(site);
                return;
            }
            for (int w = 0; w < site.size; w++) {
                if ((used & 1 << w) == 0 && !isNeedless(site, placed, w)) {
                    trial[placed] = w;
                    tryFrom(site, placed + 1, used | 1 << w);
                }
            }
        }

        /**
         * Two neighbours that can never keep one another from beginning begin at the same hours
         * the other way round: that order is the one ahead by numbers, so this one is never best.
         */
        private boolean isNeedless(Site site, int placed, int next) {
            if (placed == 0 || trial[placed - 1] < next) {
                return false;
            }
            Work before = site.works[trial[placed - 1]];
            return before.isAfter(next) || !before.competesWith(site.works[next]);
        }

        private void judge(Site site) {
            int byMost = site.walk(ROW_MOST, trial);
            if (byMost > endByMost) {
                return;
            }
            int byLeast = site.walk(ROW_LEAST, trial);
            if (byMost < endByMost || byLeast < endByLeast) {
                endByMost = byMost;
                endByLeast = byLeast;
                System.arraycopy(trial, 0, found, 0, WORKS_OF_BEST);
            }
        }
    }

    /** TRAINS in dead ends. */
    private static final class Yard {
        int trains = 0;
        int deadEnds = 0;

        private final int[] numbers = new int[TRAINS_AT_MOST];
        private final int[] places = new int[TRAINS_AT_MOST];
        private final int[] foremost = new int[TRAINS_AT_MOST];

        void clear() {
            trains = 0;
            deadEnds = 0;
        }

        boolean has(int number) {
            for (int t = 0; t < trains; t++) {
                if (numbers[t] == number) {
                    return true;
                }
            }
            return false;
        }

        /** There are fewer than 30 trains: the dead end of the new one. */
        int take(int number) {
            int place = placeFor(number);
            if (place == NONE) {
                place = deadEnds;
                deadEnds++;
            }
            foremost[place] = number;
            numbers[trains] = number;
            places[trains] = place;
            trains++;
            return place;
        }

        private int placeFor(int number) {
            int chosen = NONE;
            for (int e = 0; e < deadEnds; e++) {
                if (foremost[e] > number && (chosen == NONE || foremost[e] < foremost[chosen])) {
                    chosen = e;
                }
            }
            return chosen;
        }

        /** The dead end of the train that comes out behind k others; NONE. */
        int deadEndOf(int k) {
            for (int t = 0; t < trains; t++) {
                if (trainsAheadOf(numbers[t]) == k) {
                    return places[t];
                }
            }
            return NONE;
        }

        private int trainsAheadOf(int number) {
            int ahead = 0;
            for (int t = 0; t < trains; t++) {
                if (numbers[t] < number) {
                    ahead++;
                }
            }
            return ahead;
        }
    }
}
