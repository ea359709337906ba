import java.util.Arrays;

/**
 * A bridge in a night: works told by texts, the hours at which they begin and all ends, the order
 * in which they should be begun, the way back, and trains that come out of dead ends.
 */
public final class BridgeNight {
    public static final int NONE = -1;

    private static final int WORKS_AT_MOST = 16;
    private static final int WORKS_OF_BEST = 7;
    private static final int DRAWS_AT_MOST = 20;
    private static final int NOISE_AT_MOST = 20;
    private static final int TAPE_AT_MOST = 200;
    private static final int BYTES_OF_FEED = 20;
    private static final int TRAINS_AT_MOST = 30;
    private static final int CREW_AT_MOST = 60;
    private static final int HOUR_AT_MOST = 1000;
    private static final int NUMBER_AT_MOST = 1000;

    private static final int ROW_LEAST = 0;
    private static final int ROW_MOST = 1;
    private static final int FIRST_DRAW = 2;

    private final int[] tape = new int[TAPE_AT_MOST];
    private final Reader reader = new Reader();
    private final Site site = new Site();
    private final Search search = new Search();
    private final Row[] rows = new Row[FIRST_DRAW + DRAWS_AT_MOST];
    private final int[] noiseNumbers = new int[NOISE_AT_MOST];
    private final Yard yard = new Yard();
    private int tapeBytes = 0;
    private int faultPlace = NONE;
    private int noiseCount = 0;
    private int drawCount = 0;
    private int limit = 100;

    public BridgeNight() {
        for (int r = 0; r < rows.length; r++) {
            rows[r] = new Row();
        }
    }

    public int feed(int a, int b, int c, int d, int e) {
        if (tapeBytes + BYTES_OF_FEED > TAPE_AT_MOST) {
            return NONE;
        }
        putOnTape(a);
        putOnTape(b);
        putOnTape(c);
        putOnTape(d);
        putOnTape(e);
        return tapeBytes;
    }

    private void putOnTape(int number) {
        for (int shift = 24; shift >= 0; shift -= 8) {
            tape[tapeBytes] = (number >>> shift) & 255;
            tapeBytes++;
        }
    }

    public int work(int n) throws IllegalArgumentException, IllegalStateException {
        if (n < 0 || n > tapeBytes) {
            throw new IllegalArgumentException("not so many bytes on the tape");
        }
        if (site.size >= WORKS_AT_MOST) {
            throw new IllegalStateException("there are 16 works");
        }
        tapeBytes = 0;
        int kind = reader.read(tape, n, site.works[site.size], site.size);
        faultPlace = reader.place;
        if (kind != Reader.NO_FAULT) {
            return kind - 10;
        }
        return addWork();
    }

    /** The work stands in its slot already: the reader filled it. */
    private int addWork() {
        int number = site.size;
        rows[ROW_LEAST].hours[number] = site.works[number].least;
        rows[ROW_MOST].hours[number] = site.works[number].most;
        site.sequence[number] = number;
        site.size++;
        drawCount = 0;
        return number;
    }

    public int fault() {
        return faultPlace;
    }

    public int told(int work, int what) throws IndexOutOfBoundsException, IllegalArgumentException {
        if (!isWork(work)) {
            throw new IndexOutOfBoundsException("no such work");
        }
        Work asked = site.works[work];
        switch (what) {
            case 0:
                return asked.least;
            case 1:
                return asked.most;
            case 2:
                return asked.thing;
            case 3:
                return asked.hands;
            case 4:
                return asked.back;
            case 5:
                return asked.after;
            default:
                throw new IllegalArgumentException("nothing such is told of a work");
        }
    }

    public int set(int what, int v) throws IllegalArgumentException {
        if (what == 0 && v >= 1 && v <= CREW_AT_MOST) {
            int was = site.crew;
            site.crew = v;
            return was;
        }
        if (what == 1 && v >= 0 && v <= HOUR_AT_MOST) {
            int was = limit;
            limit = v;
            return was;
        }
        throw new IllegalArgumentException("neither a crew nor a limit");
    }

    public int noise(int v) {
        if (noiseCount >= NOISE_AT_MOST) {
            return NONE;
        }
        noiseNumbers[noiseCount] = v;
        noiseCount++;
        return noiseCount;
    }

    public int draw() {
        if (drawCount >= DRAWS_AT_MOST) {
            return -1;
        }
        if (noiseCount < site.size) {
            return -2;
        }
        int row = FIRST_DRAW + drawCount;
        for (int w = 0; w < site.size; w++) {
            rows[row].hours[w] = site.works[w].drawnHours(noiseNumbers[w]);
        }
        noiseCount = 0;
        drawCount++;
        return row;
    }

    public int hours(int row, int work) throws IndexOutOfBoundsException, IllegalArgumentException {
        if (!isWork(work)) {
            throw new IndexOutOfBoundsException("no such work");
        }
        if (!isRow(row)) {
            throw new IllegalArgumentException("no such row");
        }
        return rows[row].hours[work];
    }

    public int end(int row) throws IllegalArgumentException {
        if (!isRow(row)) {
            throw new IllegalArgumentException("no such row");
        }
        return site.walk(rows[row], site.sequence);
    }

    public int begins(int row, int work) throws IndexOutOfBoundsException, IllegalArgumentException {
        if (!isWork(work)) {
            throw new IndexOutOfBoundsException("no such work");
        }
        if (!isRow(row)) {
            throw new IllegalArgumentException("no such row");
        }
        site.walk(rows[row], site.sequence);
        return rows[row].starts[work];
    }

    public int best() {
        if (site.size > WORKS_OF_BEST || site.walk(rows[ROW_MOST], site.sequence) == NONE) {
            return NONE;
        }
        search.find(site, rows[ROW_LEAST], rows[ROW_MOST]);
        System.arraycopy(search.found, 0, site.sequence, 0, site.size);
        return search.endByMost;
    }

    public int order(int k) {
        return k >= 0 && k < site.size ? site.sequence[k] : NONE;
    }

    public int move(int work, int k) throws IndexOutOfBoundsException, IllegalArgumentException {
        if (!isWork(work)) {
            throw new IndexOutOfBoundsException("no such work");
        }
        if (k < 0 || k >= site.size) {
            throw new IllegalArgumentException("no such place");
        }
        return site.shift(work, k);
    }

    public int part() {
        walkDraws();
        int within = 0;
        for (int d = 0; d < drawCount; d++) {
            int finish = rows[FIRST_DRAW + d].finish;
            if (finish != NONE && finish <= limit) {
                within++;
            }
        }
        return within;
    }

    public int on() {
        walkDraws();
        return lateEnds();
    }

    public int off(int hour) throws IllegalArgumentException {
        if (hour < 0 || hour > HOUR_AT_MOST) {
            throw new IllegalArgumentException("no such hour");
        }
        walkDraws();
        return lateBacks(hour);
    }

    /**
     * BACK never falls from an hour to the next, and once it is missing it stays so; at hour 0
     * nothing is begun. So the good hours are the first ones, and halving steps find the last.
     */
    public int last() {
        if (drawCount == 0) {
            return NONE;
        }
        walkDraws();
        int allowed = lateEnds();
        int good = 0;
        for (int step = 512; step > 0; step >>= 1) {
            if (good + step <= HOUR_AT_MOST && isBackBetter(good + step, allowed)) {
                good += step;
            }
        }
        return good;
    }

    private boolean isBackBetter(int hour, int allowed) {
        int late = lateBacks(hour);
        return late != NONE && (allowed == NONE || late <= allowed);
    }

    private void walkDraws() {
        for (int d = 0; d < drawCount; d++) {
            site.walk(rows[FIRST_DRAW + d], site.sequence);
        }
    }

    /** ON, behind walkDraws(). */
    private int lateEnds() {
        int sum = 0;
        for (int d = 0; d < drawCount; d++) {
            int finish = rows[FIRST_DRAW + d].finish;
            if (finish == NONE) {
                return NONE;
            }
            sum += aboveLimit(finish);
        }
        return drawCount == 0 ? NONE : sum;
    }

    /** OFF at an hour, behind walkDraws(). */
    private int lateBacks(int hour) {
        int sum = 0;
        for (int d = 0; d < drawCount; d++) {
            int back = site.backFrom(hour, rows[FIRST_DRAW + d]);
            if (back == NONE) {
                return NONE;
            }
            sum += aboveLimit(back);
        }
        return drawCount == 0 ? NONE : sum;
    }

    private int aboveLimit(int hour) {
        return Math.max(0, hour - limit);
    }

    public int train(int number) throws IllegalArgumentException {
        if (number < 0 || number > NUMBER_AT_MOST) {
            throw new IllegalArgumentException("no number of a train");
        }
        if (yard.trains >= TRAINS_AT_MOST) {
            return -1;
        }
        if (yard.has(number)) {
            return -2;
        }
        return yard.take(number);
    }

    public int ends() {
        return yard.deadEnds;
    }

    public int leave() {
        int left = yard.trains;
        yard.clear();
        return left;
    }

    public int out(int k) {
        return yard.deadEndOf(k);
    }

    public int count(int what) {
        switch (what) {
            case 0:
                return site.size;
            case 1:
                return drawCount;
            case 2:
                return noiseCount;
            case 3:
                return yard.trains;
            case 4:
                return tapeBytes;
            default:
                return NONE;
        }
    }

    private boolean isWork(int work) {
        return work >= 0 && work < site.size;
    }

    private boolean isRow(int row) {
        return row >= 0 && row < FIRST_DRAW + drawCount;
    }

    /** What a text tells of a WORK. */
    private static final class Work {
        int least;
        int most;
        int thing;
        int hands;
        int back;
        int after;

        void clear() {
            least = 0;
            most = 0;
            thing = 0;
            hands = 0;
            back = NONE;
            after = 0;
        }

        /** A WORK without a THING uses none: its bit is 0. */
        int thingBit() {
            return thing == 0 ? 0 : 1 << thing;
        }

        int drawnHours(int number) {
            int width = most - least + 1;
            return width <= 0 ? least : least + (int) ((number & 0xFFFFFFFFL) % width);
        }
    }

    /** Reads a text from left to right, up to its first FAULT. */
    private static final class Reader {
        static final int NO_FAULT = 0;
        static final int CANNOT_STAND = 1;
        static final int NO_SUCH_NUMBER = 2;
        static final int NO_HOURS = 3;

        private static final int HOURS = 0;
        private static final int NEEDS = 1;
        private static final int HANDS = 2;
        private static final int BACK = 3;
        private static final int AFTER = 4;

        /** Greater than every bound of a number: longer ones are kept here, so that none overflows. */
        private static final int TOO_GREAT = 1000;

        private int[] bytes;
        private int length;
        private int at;
        private int value;
        private int clausesRead;
        private Work target;
        private int earlier;
        private int kind;
        int place;

        /** The kind of the FAULT in the first n bytes, or NO_FAULT; the place of it is in 'place'. */
        int read(int[] tape, int n, Work slot, int worksBefore) {
            bytes = tape;
            length = n;
            at = 0;
            clausesRead = 0;
            target = slot;
            target.clear();
            earlier = worksBefore;
            kind = NO_FAULT;
            place = NONE;
            if (readClauses() && (clausesRead & 1 << HOURS) == 0) {
                refuse(NO_HOURS, length);
            }
            return kind;
        }

        private boolean readClauses() {
            skipBlanks();
            while (at < length) {
                if (!readClause()) {
                    return false;
                }
                skipBlanks();
            }
            return true;
        }

        private boolean readClause() {
            int from = at;
            skipWord();
            int clause = clauseOf(from);
            if (clause == NONE || (clausesRead & 1 << clause) != 0) {
                return refuse(CANNOT_STAND, from);
            }
            clausesRead |= 1 << clause;
            return readRest(clause) && readSign(';');
        }

        private int clauseOf(int from) {
            if (spells(from, "hours")) {
                return HOURS;
            }
            if (spells(from, "needs")) {
                return NEEDS;
            }
            if (spells(from, "hands")) {
                return HANDS;
            }
            if (spells(from, "back")) {
                return BACK;
            }
            return spells(from, "after") ? AFTER : NONE;
        }

        private boolean readRest(int clause) {
            switch (clause) {
                case HOURS:
                    return readHours();
                case NEEDS:
                    return readThing();
                case HANDS:
                    return readHands();
                case BACK:
                    return readBack();
                default:
                    return readAfter();
            }
        }

        private boolean readHours() {
            if (!readNumber(1, 40)) {
                return false;
            }
            target.least = value;
            if (!readSign('-') || !readNumber(target.least, 40)) {
                return false;
            }
            target.most = value;
            return true;
        }

        private boolean readThing() {
            skipBlanks();
            int from = at;
            skipWord();
            if (spells(from, "track")) {
                target.thing = 1;
            } else if (spells(from, "crane")) {
                target.thing = 2;
            } else if (spells(from, "hole")) {
                target.thing = 3;
            } else {
                return refuse(CANNOT_STAND, from);
            }
            return true;
        }

        private boolean readHands() {
            if (!readNumber(0, 30)) {
                return false;
            }
            target.hands = value;
            return true;
        }

        private boolean readBack() {
            if (!readNumber(0, 40)) {
                return false;
            }
            target.back = value;
            return true;
        }

        private boolean readAfter() {
            do {
                if (!readNumber(0, earlier - 1)) {
                    return false;
                }
                target.after |= 1 << value;
                skipBlanks();
            } while (at < length && isDigit(bytes[at]));
            return true;
        }

        private boolean readNumber(int from, int to) {
            skipBlanks();
            int start = at;
            value = 0;
            while (at < length && isDigit(bytes[at])) {
                value = Math.min(TOO_GREAT, value * 10 + bytes[at] - '0');
                at++;
            }
            if (at == start) {
                return refuse(CANNOT_STAND, start);
            }
            return value >= from && value <= to || refuse(NO_SUCH_NUMBER, start);
        }

        private boolean readSign(char sign) {
            skipBlanks();
            if (at >= length || bytes[at] != sign) {
                return refuse(CANNOT_STAND, at);
            }
            at++;
            return true;
        }

        private void skipBlanks() {
            while (at < length && bytes[at] == ' ') {
                at++;
            }
        }

        private void skipWord() {
            while (at < length && bytes[at] >= 'a' && bytes[at] <= 'z') {
                at++;
            }
        }

        /** Whether the word that has just been skipped, from a place on, is this one. */
        private boolean spells(int from, String word) {
            if (at - from != word.length()) {
                return false;
            }
            for (int i = 0; i < word.length(); i++) {
                if (bytes[from + i] != word.charAt(i)) {
                    return false;
                }
            }
            return true;
        }

        private boolean isDigit(int sign) {
            return sign >= '0' && sign <= '9';
        }

        private boolean refuse(int faultKind, int where) {
            kind = faultKind;
            place = where;
            return false;
        }
    }

    /** The hours of all WORKS, and what came of it when the row was gone through the latest time. */
    private static final class Row {
        final int[] hours = new int[WORKS_AT_MOST];
        final int[] starts = new int[WORKS_AT_MOST];
        int finish = NONE;
    }

    /** The WORKS, their ORDER and the CREW. */
    private static final class Site {
        final Work[] works = new Work[WORKS_AT_MOST];
        final int[] sequence = new int[WORKS_AT_MOST];
        int size = 0;
        int crew = 30;

        private final int[] stops = new int[WORKS_AT_MOST];
        private int begun;
        private int ended;
        private int thingsInUse;
        private int handsFree;

        Site() {
            for (int w = 0; w < works.length; w++) {
                works[w] = new Work();
            }
        }

        /** Goes through a row in an order: END, or NONE; a WORK that never begins starts at NONE. */
        int walk(Row row, int[] inOrder) {
            begun = 0;
            ended = 0;
            thingsInUse = 0;
            handsFree = crew;
            Arrays.fill(row.starts, NONE);
            int hour = 0;
            for (int turn = 0; turn <= size; turn++) {
                beginAt(hour, row, inOrder);
                if (begun == ended) {
                    break;
                }
                hour = nextStop();
                endAt(hour);
            }
            row.finish = ended == (1 << size) - 1 ? hour : NONE;
            return row.finish;
        }

        private void beginAt(int hour, Row row, int[] inOrder) {
            for (int k = 0; k < size; k++) {
                int number = inOrder[k];
                if ((begun & 1 << number) == 0 && canBegin(works[number])) {
                    begun |= 1 << number;
                    thingsInUse |= works[number].thingBit();
                    handsFree -= works[number].hands;
                    row.starts[number] = hour;
                    stops[number] = hour + row.hours[number];
                }
            }
        }

        private boolean canBegin(Work next) {
            return (next.after & ~ended) == 0
                && (next.thingBit() & thingsInUse) == 0
                && next.hands <= handsFree;
        }

        private int nextStop() {
            int next = Integer.MAX_VALUE;
            for (int w = 0; w < size; w++) {
                if (isRunning(w)) {
                    next = Math.min(next, stops[w]);
                }
            }
            return next;
        }

        private void endAt(int hour) {
            for (int w = 0; w < size; w++) {
                if (isRunning(w) && stops[w] == hour) {
                    ended |= 1 << w;
                    thingsInUse &= ~works[w].thingBit();
                    handsFree += works[w].hands;
                }
            }
        }

        private boolean isRunning(int number) {
            return ((begun & ~ended) & 1 << number) != 0;
        }

        /** BACK at an hour by a row that has been gone through; NONE: there is no way back. */
        int backFrom(int hour, Row row) {
            int sum = hour;
            for (int w = 0; w < size; w++) {
                if (row.starts[w] != NONE && row.starts[w] < hour) {
                    if (works[w].back == NONE) {
                        return NONE;
                    }
                    sum += works[w].back;
                }
            }
            return sum;
        }

        /** Puts a WORK at a place of the ORDER: the place at which it was. */
        int shift(int number, int to) {
            int from = 0;
            while (from < size - 1 && sequence[from] != number) {
                from++;
            }
            for (int k = from; k < to; k++) {
                sequence[k] = sequence[k + 1];
            }
            for (int k = from; k > to; k--) {
                sequence[k] = sequence[k - 1];
            }
            sequence[to] = number;
            return from;
        }
    }

    /** Goes through all ORDERS of few WORKS, the first by numbers first, for the BEST one. */
    private static final class Search {
        final int[] found = new int[WORKS_OF_BEST];
        int endByMost;

        private final int[] trial = new int[WORKS_OF_BEST];
        private int endByLeast;
        private Site site;
        private Row least;
        private Row most;

        /** There are 7 WORKS at most, and they have an END. */
        void find(Site at, Row byLeast, Row byMost) {
            site = at;
            least = byLeast;
            most = byMost;
            endByMost = Integer.MAX_VALUE;
            endByLeast = Integer.MAX_VALUE;
            tryFrom(0, 0);
        }

        /** All orders whose first works, as many as 'placed', stand in the trial. */
        private void tryFrom(int placed, int used) {
            if (placed >= site.size || placed >= WORKS_OF_BEST) {
                judge();
                return;
            }
            for (int w = 0; w < site.size; w++) {
                if ((used & 1 << w) == 0) {
                    trial[placed] = w;
                    tryFrom(placed + 1, used | 1 << w);
                }
            }
        }

        private void judge() {
            int byMost = site.walk(most, trial);
            if (byMost > endByMost) {
                return;
            }
            int byLeast = site.walk(least, trial);
            if (byMost < endByMost || byLeast < endByLeast) {
                endByMost = byMost;
                endByLeast = byLeast;
                System.arraycopy(trial, 0, found, 0, WORKS_OF_BEST);
            }
        }
    }

    /** TRAINS in dead ends. */
    private static final class Yard {
        private final int[] numbers = new int[TRAINS_AT_MOST];
        private final int[] places = new int[TRAINS_AT_MOST];
        private final int[] foremost = new int[TRAINS_AT_MOST];
        int trains = 0;
        int deadEnds = 0;

        void clear() {
            trains = 0;
            deadEnds = 0;
        }

        boolean has(int number) {
            for (int t = 0; t < trains; t++) {
                if (numbers[t] == number) {
                    return true;
                }
            }
            return false;
        }

        /** There are fewer than 30: its dead end. */
        int take(int number) {
            int place = placeFor(number);
            if (place == NONE) {
                place = deadEnds;
                deadEnds++;
            }
            foremost[place] = number;
            numbers[trains] = number;
            places[trains] = place;
            trains++;
            return place;
        }

        private int placeFor(int number) {
            int chosen = NONE;
            for (int e = 0; e < deadEnds; e++) {
                if (foremost[e] > number && (chosen == NONE || foremost[e] < foremost[chosen])) {
                    chosen = e;
                }
            }
            return chosen;
        }

        /** The dead end of the train that comes out behind k others. */
        int deadEndOf(int k) {
            for (int t = 0; t < trains; t++) {
                if (trainsAheadOf(numbers[t]) == k) {
                    return places[t];
                }
            }
            return NONE;
        }

        private int trainsAheadOf(int number) {
            int ahead = 0;
            for (int t = 0; t < trains; t++) {
                if (numbers[t] < number) {
                    ahead++;
                }
            }
            return ahead;
        }
    }
}
