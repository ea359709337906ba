/** Promises 1 to 23: each sentence that names a boundary case or a refused call, on its own. */
public final class PromiseBoundaryTest {
    private static final Class<IllegalArgumentException> IAE = IllegalArgumentException.class;
    private static final Class<IllegalStateException> ISE = IllegalStateException.class;
    private static final Class<IndexOutOfBoundsException> IOOBE = IndexOutOfBoundsException.class;
    private static final int LEAST_INT = Integer.MIN_VALUE;
    private static final int GREATEST_INT = Integer.MAX_VALUE;

    public static void main(String[] args) {
        newObjectIsEmpty();
        feedHighestFirst();
        feedTwoHundredAtMost();
        workOfTheFirstBytes();
        workEmptiesTheTape();
        workAnswersFaultLessTen();
        workOfNoSuchLength();
        workBeyondSixteen();
        faultOfTheLatestWork();
        toldOfNoSuchWork();
        toldOfAnotherWhat();
        setAnswersWhatItWas();
        setOfNoneSuch();
        noiseBeyondTwenty();
        drawEmptiesTheNoise();
        drawBeyondTwenty();
        drawOfTooLittleNoise();
        hoursOfNoSuchWorkOrRow();
        endOfNoSuchRow();
        endIsNone();
        beginsOfNoSuchWorkOrRow();
        beginsNever();
        bestIsNotTold();
        bestWithoutAnEnd();
        bestBehindABest();
        orderOfNoSuchPlace();
        moveKeepsTheOthers();
        moveOfNoSuchWorkOrPlace();
        partWithoutDraws();
        onIsNone();
        offIsNone();
        offOfNoSuchHour();
        lastFromZeroToThousand();
        lastWhileBackIsThere();
        lastWhileOffIsNotAboveOn();
        lastWithoutOn();
        lastIsNone();
        trainBeyondThirty();
        trainWhoseNumberWasTold();
        trainOfNoNumber();
        endsCountsDeadEnds();
        leaveTakesAll();
        outOfNoSuchTrain();
        countOfAnotherWhat();
        Check.finish();
    }

    /** 1: "No WORKS, DRAWS, TRAINS." */
    private static void newObjectIsEmpty() {
        BridgeNight x = new BridgeNight();
        for (int what = 0; what < 5; what++) {
            int asked = what;
            Check.due("1: count(" + what + ")", () -> x.count(asked), 0);
        }
        Check.isThrown("1: no work", () -> x.told(0, 0), IOOBE);
        Check.isThrown("1: no draw", () -> x.end(2), IAE);
        Check.due("1: no place", () -> x.order(0), -1);
        Check.due("1: no train", () -> x.out(0), -1);
        Check.due("1: no dead end", x::ends, 0);
        Check.due("1: no fault", x::fault, -1);
        BridgeNight full = Nights.plain(16);
        full.train(1);
        full.noise(1);
        Check.due("1: objects have nothing in common", () -> new BridgeNight().count(0), 0);
        Check.due("1: nor trains", () -> new BridgeNight().count(3), 0);
        Check.due("1: nor noise", () -> new BridgeNight().count(2), 0);
    }

    /** 2: "Twenty bytes come on the TAPE, of each number the highest first". */
    private static void feedHighestFirst() {
        String text = "hours 1-2;back 17  ;";
        BridgeNight x = new BridgeNight();
        Check.due("2: feed", () -> x.feed(0x686f7572, 0x7320312d, 0x323b6261, 0x636b2031, 0x3720203b), 20);
        Check.due("2: " + text, () -> x.work(20), 0);
        Check.due("2: its back", () -> x.told(0, 4), 17);
        for (int at = 0; at < 20; at++) {
            int[] v = new int[5];
            java.util.Arrays.fill(v, 0x20202020);
            v[at / 4] ^= (0x20 ^ 0xff) << 24 - 8 * (at % 4);
            Check.due("2: feed with a byte of 255", () -> x.feed(v[0], v[1], v[2], v[3], v[4]), 20);
            Check.due("2: 255 at " + at, () -> x.work(20), -9);
            Check.due("2: its place", x::fault, at);
        }
    }

    /** 2: "how many there are; NONE, doing nothing, if there would be more than 200." */
    private static void feedTwoHundredAtMost() {
        BridgeNight x = new BridgeNight();
        for (int i = 1; i < 10; i++) {
            Check.due("2: feed " + i, () -> x.feed(0x20202020, 0x20202020, 0x20202020, 0x20202020, 0x20202020),
                20 * i);
        }
        Check.due("2: the 200th byte", () -> x.feed(0x20202020, 0x20202020, 0x2020686f, 0x75727320, 0x312d323b), 200);
        Check.due("2: a byte more", () -> x.feed(-1, -1, -1, -1, -1), -1);
        Check.due("2: and again", () -> x.feed(-1, -1, -1, -1, -1), -1);
        Check.due("2: bytes", () -> x.count(4), 200);
        Check.due("2: it did nothing", () -> x.work(200), 0);
        Check.due("2: there is room again", () -> x.feed(0, 0, 0, 0, 0), 20);
    }

    /** 3: "The first n bytes of the TAPE (empty then) are a WORK": 0 of them, some, all. */
    private static void workOfTheFirstBytes() {
        BridgeNight x = new BridgeNight();
        Check.due("3: 0 of 0 bytes", () -> x.work(0), -7);
        Check.feedText(x, "hours 1-2;back 1;;;;");
        Check.due("3: 0 of 20 bytes", () -> x.work(0), -7);
        Check.feedText(x, "hours 1-2;back 1;;;;");
        Check.due("3: 17 of 20 bytes", () -> x.work(17), 0);
        Check.feedText(x, "hours 1-2;back 1;;;;");
        Check.due("3: 20 of 20 bytes", () -> x.work(20), -9);
        Check.due("3: the place in them", x::fault, 17);
        Check.feedText(x, "hours 1-2;back 1;   ");
        Check.due("3: 20 right bytes of 20", () -> x.work(20), 1);
    }

    /** 3: "(empty then)": behind a work, and behind each fault. */
    private static void workEmptiesTheTape() {
        String[] texts = {"hours 1-2;", "x", "hours 0-1;", "back 1;", ""};
        for (String text : texts) {
            BridgeNight x = new BridgeNight();
            Check.feedText(x, text + " ".repeat(40));
            Check.report("3: the tape has bytes", Boolean.toString(x.count(4) > 0), "true");
            x.work(text.length());
            Check.due("3: no bytes are left behind " + text, () -> x.count(4), 0);
            Check.isThrown("3: not one", () -> x.work(1), IAE);
        }
    }

    /** 3: "its number, or its FAULT less 10." */
    private static void workAnswersFaultLessTen() {
        BridgeNight x = new BridgeNight();
        Check.due("3: fault 1", () -> Check.tell(x, "x"), -9);
        Check.due("3: fault 2", () -> Check.tell(x, "hours 0-1;"), -8);
        Check.due("3: fault 3", () -> Check.tell(x, "back 1;"), -7);
        Check.due("3: none of them is a work", () -> x.count(0), 0);
        Check.due("3: the first", () -> Check.tell(x, "hours 1-1;"), 0);
        Check.due("3: a fault between", () -> Check.tell(x, "x"), -9);
        Check.due("3: the second", () -> Check.tell(x, "hours 1-1;"), 1);
    }

    /** 3: "IllegalArgumentException: n is not 0 to the TAPE's bytes". */
    private static void workOfNoSuchLength() {
        BridgeNight x = new BridgeNight();
        Check.isThrown("3: 1 of 0 bytes", () -> x.work(1), IAE);
        Check.isThrown("3: -1 of 0 bytes", () -> x.work(-1), IAE);
        Check.feedText(x, "hours 1-2;");
        for (int n : new int[] {-1, 21, 200, 201, LEAST_INT, GREATEST_INT}) {
            Check.isThrown("3: " + n + " of 20 bytes", () -> x.work(n), IAE);
        }
        Check.feedText(x, " ".repeat(180));
        Check.isThrown("3: 201 of 200 bytes", () -> x.work(201), IAE);
        Check.due("3: 200 of 200 bytes, which stood", () -> x.work(200), -9);
        Check.due("3: the fill behind the first text", x::fault, 10);
    }

    /** 3: "IllegalStateException: there are 16." */
    private static void workBeyondSixteen() {
        BridgeNight x = Nights.plain(15);
        Check.due("3: the 16th", () -> Check.tell(x, "hours 1-1;"), 15);
        Check.isThrown("3: no bytes", () -> x.work(0), ISE);
        Check.isThrown("3: n is wrong, too", () -> x.work(1), IAE);
        Check.feedText(x, "hours 1-1;x");
        Check.isThrown("3: a right text", () -> x.work(10), ISE);
        Check.isThrown("3: a text with a fault", () -> x.work(11), ISE);
        Check.isThrown("3: too many bytes", () -> x.work(21), IAE);
        Check.isThrown("3: too few bytes", () -> x.work(-1), IAE);
        Check.due("3: the tape stands", () -> x.count(4), 20);
        Check.due("3: works", () -> x.count(0), 16);
    }

    /** 4: "The place of the FAULT of the latest work(); NONE without." */
    private static void faultOfTheLatestWork() {
        BridgeNight x = new BridgeNight();
        Check.due("4: no work() yet", x::fault, -1);
        Check.feedText(x, "    x");
        Check.due("4: still none", x::fault, -1);
        Check.due("4: a fault", () -> x.work(5), -9);
        Check.due("4: its place", x::fault, 4);
        Check.feedText(x, "hours 1-1;");
        Check.due("4: a feed does not matter", x::fault, 4);
        Check.due("4: a place at 0", () -> x.work(0), -7);
        Check.due("4: is 0", x::fault, 0);
        Check.due("4: a right text", () -> Check.tell(x, "hours 1-1;"), 0);
        Check.due("4: has none", x::fault, -1);
        Check.due("4: a place at 200", () -> Check.tell(x, " ".repeat(200)), -7);
        Check.due("4: is 200", x::fault, 200);
    }

    /** 5: "IndexOutOfBoundsException: no such WORK". */
    private static void toldOfNoSuchWork() {
        Check.isThrown("5: none of none", () -> new BridgeNight().told(0, 0), IOOBE);
        for (int works : new int[] {1, 15, 16}) {
            BridgeNight x = Nights.plain(works);
            Check.due("5: the first", () -> x.told(0, 0), 1);
            Check.due("5: the last", () -> x.told(works - 1, 0), 1);
            for (int bad : new int[] {-1, works, 16, 17, LEAST_INT, GREATEST_INT}) {
                Check.isThrown("5: work " + bad + " of " + works, () -> x.told(bad, 0), IOOBE);
                Check.isThrown("5: another what, too", () -> x.told(bad, 6), IOOBE);
            }
        }
    }

    /** 5: "IllegalArgumentException: another what." */
    private static void toldOfAnotherWhat() {
        BridgeNight x = Nights.with("hours 1-1;", "hours 1-2;needs hole;hands 3;back 4;after 0;");
        for (int bad : new int[] {-1, 6, LEAST_INT, GREATEST_INT}) {
            Check.isThrown("5: what " + bad, () -> x.told(1, bad), IAE);
        }
        Check.due("5: the first what", () -> x.told(1, 0), 1);
        Check.due("5: the last what", () -> x.told(1, 5), 1);
    }

    /** 6: "CREW (0), LIMIT (1) is v: what it was." Each alone. */
    private static void setAnswersWhatItWas() {
        BridgeNight x = new BridgeNight();
        Check.due("6: crew", () -> x.set(0, 60), 30);
        Check.due("6: limit", () -> x.set(1, 0), 100);
        Check.due("6: crew again", () -> x.set(0, 1), 60);
        Check.due("6: limit again", () -> x.set(1, 1000), 0);
        Check.due("6: the same crew", () -> x.set(0, 1), 1);
        Check.due("6: the same limit", () -> x.set(1, 1000), 1000);
    }

    /** 6: "IllegalArgumentException: another what, or v is none such." */
    private static void setOfNoneSuch() {
        BridgeNight x = new BridgeNight();
        for (int bad : new int[] {-1, 2, LEAST_INT, GREATEST_INT}) {
            Check.isThrown("6: what " + bad, () -> x.set(bad, 1), IAE);
        }
        for (int bad : new int[] {-1, 0, 61, 100, 1000, LEAST_INT, GREATEST_INT}) {
            Check.isThrown("6: crew " + bad, () -> x.set(0, bad), IAE);
        }
        for (int bad : new int[] {-1, 1001, LEAST_INT, GREATEST_INT}) {
            Check.isThrown("6: limit " + bad, () -> x.set(1, bad), IAE);
        }
        Check.due("6: the crew stands", () -> x.set(0, 2), 30);
        Check.due("6: the limit stands", () -> x.set(1, 2), 100);
    }

    /** 7: "how many there are; NONE, doing nothing: there are 20." */
    private static void noiseBeyondTwenty() {
        BridgeNight x = Nights.with("hours 1-40;");
        for (int i = 1; i <= 20; i++) {
            int number = i;
            Check.due("7: number " + i, () -> x.noise(number + 1), number);
        }
        Check.due("7: a 21st", () -> x.noise(9), -1);
        Check.due("7: and again", () -> x.noise(9), -1);
        Check.due("7: numbers", () -> x.count(2), 20);
        Check.due("7: draw", x::draw, 2);
        Check.due("7: by the first number", () -> x.hours(2, 0), 3);
        Check.due("7: there is room again", () -> x.noise(9), 1);
    }

    /** 8: "A DRAW (NOISE is empty then)": the numbers that no work takes are gone, too. */
    private static void drawEmptiesTheNoise() {
        BridgeNight x = Nights.with("hours 1-40;");
        x.noise(5);
        x.noise(6);
        x.noise(7);
        Check.due("8: draw", x::draw, 2);
        Check.due("8: the noise is empty", () -> x.count(2), 0);
        Check.due("8: no noise for another", x::draw, -2);
        Nights.draw(x, 8);
        Check.due("8: by the first number", () -> x.hours(2, 0), 6);
        Check.due("8: by the next one", () -> x.hours(3, 0), 9);
        BridgeNight none = new BridgeNight();
        none.noise(1);
        Check.due("8: without works", none::draw, 2);
        Check.due("8: empty then, too", () -> none.count(2), 0);
    }

    /** 8: "its ROW; -1: there are 20". */
    private static void drawBeyondTwenty() {
        BridgeNight x = new BridgeNight();
        for (int row = 2; row < 22; row++) {
            Check.due("8: row " + row, x::draw, row);
        }
        Check.due("8: a 21st", x::draw, -1);
        Check.due("8: draws", () -> x.count(1), 20);
        Check.due("8: the 20th", () -> x.end(21), 0);
        Check.isThrown("8: no 21st", () -> x.end(22), IAE);
        BridgeNight y = Nights.with("hours 1-40;");
        for (int d = 0; d < 20; d++) {
            Nights.draw(y, d);
        }
        Check.due("8: a 21st without noise", y::draw, -1);
        y.noise(1);
        Check.due("8: a 21st with noise", y::draw, -1);
        Check.due("8: the noise stands", () -> y.count(2), 1);
        Check.due("8: another work", () -> Check.tell(y, "hours 1-40;"), 1);
        Nights.draw(y, 1);
        Check.due("8: the first draw anew", () -> y.count(1), 1);
    }

    /** 8: "-2: NOISE has fewer numbers than there are WORKS." */
    private static void drawOfTooLittleNoise() {
        BridgeNight x = Nights.alike(3, "hours 1-40;");
        Check.due("8: no number", x::draw, -2);
        x.noise(1);
        x.noise(2);
        Check.due("8: one too few", x::draw, -2);
        Check.due("8: they stand", () -> x.count(2), 2);
        Check.due("8: no draw", () -> x.count(1), 0);
        x.noise(3);
        Check.due("8: enough", x::draw, 2);
        for (int w = 0; w < 3; w++) {
            int work = w;
            Check.due("8: number " + w, () -> x.hours(2, work), work + 2);
        }
    }

    /** 9: "IndexOutOfBoundsException: no such WORK; IllegalArgumentException: no such ROW". */
    private static void hoursOfNoSuchWorkOrRow() {
        BridgeNight x = Nights.with("hours 1-2;", "hours 3-4;");
        Nights.draw(x, 0, 0);
        for (int work : new int[] {-1, 2, 16, LEAST_INT, GREATEST_INT}) {
            Check.isThrown("9: work " + work, () -> x.hours(0, work), IOOBE);
            Check.isThrown("9: work " + work + " and no such row", () -> x.hours(3, work), IOOBE);
        }
        for (int row : new int[] {-1, 3, 21, 22, LEAST_INT, GREATEST_INT}) {
            Check.isThrown("9: row " + row, () -> x.hours(row, 1), IAE);
        }
        Check.due("9: the last of both", () -> x.hours(2, 1), 3);
        Check.isThrown("9: no works", () -> new BridgeNight().hours(0, 0), IOOBE);
    }

    /** 10: no such ROW, "(so below)". */
    private static void endOfNoSuchRow() {
        BridgeNight x = Nights.with("hours 1-2;");
        Check.isThrown("10: no draw", () -> x.end(2), IAE);
        Nights.draw(x, 1);
        Check.due("10: a draw", () -> x.end(2), 2);
        for (int row : new int[] {-1, 3, 21, 22, LEAST_INT, GREATEST_INT}) {
            Check.isThrown("10: row " + row, () -> x.end(row), IAE);
        }
    }

    /** 10: "NONE: there is none." */
    private static void endIsNone() {
        BridgeNight x = Nights.with("hours 1-2;hands 2;");
        x.set(0, 1);
        Check.due("10: a hand too few", () -> x.end(0), -1);
        x.set(0, 2);
        Check.due("10: hands enough", () -> x.end(0), 1);
        Check.due("10: without works", () -> new BridgeNight().end(1), 0);
    }

    /** 11: no such WORK, "(so below)", and no such ROW, "(so below)". */
    private static void beginsOfNoSuchWorkOrRow() {
        BridgeNight x = Nights.with("hours 1-2;", "hours 3-4;after 0;");
        Nights.draw(x, 1, 0);
        for (int work : new int[] {-1, 2, 16, LEAST_INT, GREATEST_INT}) {
            Check.isThrown("11: work " + work, () -> x.begins(0, work), IOOBE);
            Check.isThrown("11: work " + work + " and no such row", () -> x.begins(3, work), IOOBE);
        }
        for (int row : new int[] {-1, 3, 21, 22, LEAST_INT, GREATEST_INT}) {
            Check.isThrown("11: row " + row, () -> x.begins(row, 1), IAE);
        }
        Check.due("11: the last of both", () -> x.begins(2, 1), 2);
        Check.isThrown("11: no works", () -> new BridgeNight().begins(0, 0), IOOBE);
    }

    /** 11: "NONE: never." Not 0, which is the first hour. */
    private static void beginsNever() {
        BridgeNight x = Nights.with("hours 1-2;hands 2;", "hours 1-1;after 0;", "hours 1-1;hands 1;");
        x.set(0, 1);
        Nights.startsAre("11: never, never, at once", x, 1, -1, -1, 0);
        x.set(0, 2);
        Nights.startsAre("11: it begins", x, 1, 0, 2, 2);
    }

    /** 12: "NONE, and nothing changes: it isn't told". */
    private static void bestIsNotTold() {
        BridgeNight x = Nights.alike(7, "hours 1-2;hands 30;");
        x.move(6, 0);
        Check.due("12: an 8th", () -> Check.tell(x, "hours 1-2;hands 30;"), 7);
        Check.due("12: of 8", x::best, -1);
        Nights.orderIs("12: nothing changes", x, 6, 0, 1, 2, 3, 4, 5, 7, -1);
        BridgeNight y = Nights.alike(7, "hours 1-2;hands 30;");
        y.move(6, 0);
        Check.due("12: of 7", y::best, 14);
        Nights.orderIs("12: the order changes", y, 0, 1, 2, 3, 4, 5, 6, -1);
        Check.due("12: an 8th behind a best", () -> Check.tell(y, "hours 1-2;hands 30;"), 7);
        y.move(6, 0);
        Check.due("12: of 8 behind a best", y::best, -1);
        Nights.orderIs("12: nothing changes behind a best", y, 6, 0, 1, 2, 3, 4, 5, 7, -1);
    }

    /** 12: "or there is no END for any." */
    private static void bestWithoutAnEnd() {
        BridgeNight x = Nights.with("hours 1-2;hands 10;", "hours 1-2;hands 11;");
        x.move(1, 0);
        x.set(0, 10);
        Check.due("12: no end", x::best, -1);
        Nights.orderIs("12: nothing changes", x, 1, 0, -1);
        x.set(0, 11);
        Check.due("12: an end", x::best, 4);
        Nights.orderIs("12: the order changes", x, 0, 1, -1);
        x.move(1, 0);
        x.set(0, 10);
        Check.due("12: no end behind a best", x::best, -1);
        Nights.orderIs("12: nothing changes behind a best", x, 1, 0, -1);
        x.set(0, 11);
        Check.due("12: the same crew as before", x::best, 4);
        Nights.orderIs("12: the same order as before", x, 0, 1, -1);
    }

    /** 12: "BEST ORDER is the ORDER": anew for another work, another crew, and another order. */
    private static void bestBehindABest() {
        BridgeNight x = Nights.with("hours 3-3;hands 10;", "hours 2-2;hands 10;", "hours 9-9;after 1;");
        Check.due("12: hands enough", x::best, 11);
        Nights.orderIs("12: hands enough", x, 0, 1, 2, -1);
        x.set(0, 19);
        Check.due("12: one at a time", x::best, 11);
        Nights.orderIs("12: one at a time", x, 1, 0, 2, -1);
        x.set(0, 20);
        Check.due("12: hands enough again", x::best, 11);
        Nights.orderIs("12: hands enough again", x, 0, 1, 2, -1);
        Check.due("12: another work", () -> Check.tell(x, "hours 20-20;hands 20;"), 3);
        Check.due("12: of four", x::best, 23);
        Nights.orderIs("12: of four", x, 0, 1, 2, 3, -1);
        Check.due("12: a work behind it", () -> Check.tell(x, "hours 5-5;after 3;"), 4);
        Check.due("12: of five", x::best, 28);
        Nights.orderIs("12: of five", x, 0, 1, 2, 3, 4, -1);
        Check.due("12: a longer work behind the first", () -> Check.tell(x, "hours 30-30;after 0;"), 5);
        Check.due("12: of six", x::best, 33);
        x.move(3, 0);
        Check.due("12: another order's end", () -> x.end(1), 53);
        Check.due("12: of six again", x::best, 33);
        Nights.orderIs("12: of six again", x, 0, 1, 2, 3, 4, 5, -1);
    }

    /** 13: "The k-th WORK of the ORDER; NONE." */
    private static void orderOfNoSuchPlace() {
        for (int works : new int[] {0, 1, 7, 16}) {
            BridgeNight x = Nights.plain(works);
            for (int k = 0; k < works; k++) {
                int place = k;
                Check.due("13: place " + k, () -> x.order(place), place);
            }
            for (int bad : new int[] {-1, works, 16, 17, LEAST_INT, GREATEST_INT}) {
                Check.due("13: place " + bad + " of " + works, () -> x.order(bad), -1);
            }
        }
    }

    /** 14: "(the others keep theirs among one another): at which it was." From end to end, too. */
    private static void moveKeepsTheOthers() {
        BridgeNight x = Nights.plain(16);
        Check.due("14: the first to the last place", () -> x.move(0, 15), 0);
        Nights.orderIs("14: the others", x, 1, 2, 3, 4, 5, 6, 7, 8, 9, 10, 11, 12, 13, 14, 15, 0, -1);
        Check.due("14: the last to the first place", () -> x.move(0, 0), 15);
        Nights.orderIs("14: as before", x, 0, 1, 2, 3, 4, 5, 6, 7, 8, 9, 10, 11, 12, 13, 14, 15, -1);
        Check.due("14: to its own place", () -> x.move(7, 7), 7);
        Check.due("14: to the next place", () -> x.move(7, 8), 7);
        Nights.orderIs("14: two change", x, 0, 1, 2, 3, 4, 5, 6, 8, 7, 9, 10);
        Check.due("14: to the place before", () -> x.move(7, 7), 8);
        Nights.orderIs("14: two change back", x, 0, 1, 2, 3, 4, 5, 6, 7, 8, 9, 10);
        Check.due("14: one alone", () -> Nights.plain(1).move(0, 0), 0);
    }

    /** 14: no such WORK; "IllegalArgumentException: no such place." */
    private static void moveOfNoSuchWorkOrPlace() {
        Check.isThrown("14: none of none", () -> new BridgeNight().move(0, 0), IOOBE);
        BridgeNight x = Nights.plain(3);
        for (int bad : new int[] {-1, 3, 15, 16, LEAST_INT, GREATEST_INT}) {
            Check.isThrown("14: work " + bad, () -> x.move(bad, 0), IOOBE);
            Check.isThrown("14: work and place " + bad, () -> x.move(bad, bad), IOOBE);
            Check.isThrown("14: place " + bad, () -> x.move(1, bad), IAE);
        }
        Nights.orderIs("14: nothing changes", x, 0, 1, 2, -1);
    }

    /** 15: PART of no draws, and of 20. */
    private static void partWithoutDraws() {
        BridgeNight x = Nights.with("hours 1-1;");
        Check.due("15: no draw", x::part, 0);
        Check.due("15: the other rows", () -> x.end(0) + x.end(1), 2);
        Check.due("15: are no draws", x::part, 0);
        for (int d = 0; d < 20; d++) {
            Nights.draw(x, d);
        }
        Check.due("15: all", x::part, 20);
        x.set(1, 0);
        Check.due("15: none", x::part, 0);
    }

    /** 16: "NONE: a DRAW has no END, or there is no DRAW." */
    private static void onIsNone() {
        BridgeNight x = Nights.with("hours 1-9;hands 2;");
        Check.due("16: no draw", x::on, -1);
        Nights.draw(x, 8);
        Check.due("16: a draw in time", x::on, 0);
        x.set(1, 8);
        Check.due("16: an hour late", x::on, 1);
        x.set(0, 1);
        Check.due("16: no end", x::on, -1);
        x.set(0, 2);
        Check.due("16: an end again", x::on, 1);
    }

    /** 17: "NONE: there is no DRAW, or no BACK by some." */
    private static void offIsNone() {
        BridgeNight x = Nights.with("hours 2-3;back 0;", "hours 1-1;after 0;");
        Check.due("17: no draw", () -> x.off(0), -1);
        Check.due("17: no draw at the last hour", () -> x.off(1000), -1);
        Nights.draw(x, 1, 0);
        Check.due("17: back by all", () -> x.off(3), 0);
        Nights.draw(x, 0, 0);
        Nights.draw(x, 1, 0);
        Check.due("17: no back by the second of three", () -> x.off(3), -1);
        Check.due("17: back by all three", () -> x.off(2), 0);
        Check.due("17: at hour 0", () -> x.off(0), 0);
    }

    /** 17: "IllegalArgumentException: the hour is not 0 to 1,000." */
    private static void offOfNoSuchHour() {
        BridgeNight x = new BridgeNight();
        for (int bad : new int[] {-1, 1001, LEAST_INT, GREATEST_INT}) {
            Check.isThrown("17: hour " + bad + " without a draw", () -> x.off(bad), IAE);
        }
        x.draw();
        for (int bad : new int[] {-1, 1001, LEAST_INT, GREATEST_INT}) {
            Check.isThrown("17: hour " + bad, () -> x.off(bad), IAE);
        }
        Check.due("17: hour 0", () -> x.off(0), 0);
        Check.due("17: hour 1000", () -> x.off(1000), 900);
    }

    /** 18: "The last hour, from 0 to 1,000". */
    private static void lastFromZeroToThousand() {
        BridgeNight x = new BridgeNight();
        x.draw();
        for (int limit : new int[] {0, 1, 99, 511, 512, 513, 999, 1000}) {
            x.set(1, limit);
            Check.due("18: for the limit " + limit, x::last, limit);
        }
        BridgeNight y = Nights.with("hours 40-40;back 0;");
        Nights.draw(y, 0);
        y.set(1, 1000);
        Check.due("18: no hour above 1000", y::last, 1000);
    }

    /** 18: "at which BACK is there by all DRAWS". */
    private static void lastWhileBackIsThere() {
        BridgeNight x = Nights.with("hours 2-9;back 0;", "hours 1-1;after 0;");
        Nights.draw(x, 7, 0);
        Check.due("18: till hour 9", x::last, 9);
        Nights.draw(x, 3, 0);
        Check.due("18: till hour 5", x::last, 5);
        Nights.draw(x, 5, 0);
        Check.due("18: till hour 5 still", x::last, 5);
        BridgeNight y = Nights.with("hours 1-1;");
        Nights.draw(y, 0);
        Check.due("18: at hour 0 alone", y::last, 0);
    }

    /** 18: "and OFF is not above ON": alike is not above. */
    private static void lastWhileOffIsNotAboveOn() {
        BridgeNight x = Nights.with("hours 10-10;back 3;");
        Nights.draw(x, 0);
        int[][] due = {{0, 7}, {4, 7}, {10, 7}, {11, 8}, {100, 97}, {1000, 997}};
        for (int[] d : due) {
            x.set(1, d[0]);
            Check.due("18: for the limit " + d[0], x::last, d[1]);
        }
        x.set(1, 4);
        Check.due("18: on", x::on, 6);
        Check.due("18: off is alike", () -> x.off(7), 6);
        Check.due("18: off is above", () -> x.off(8), 7);
    }

    /** 18: "(or there is no ON)". */
    private static void lastWithoutOn() {
        BridgeNight x = Nights.with("hours 1-1;back 40;", "hours 1-1;hands 2;");
        Nights.draw(x, 0, 0);
        x.set(1, 0);
        Check.due("18: with on", x::last, 0);
        x.set(0, 1);
        Check.due("18: no on", x::on, -1);
        Check.due("18: off may be above all", x::last, 1000);
        BridgeNight y = Nights.with("hours 3-3;back 0;", "hours 1-1;after 0;", "hours 1-1;hands 2;");
        Nights.draw(y, 0, 0, 0);
        y.set(0, 1);
        Check.due("18: no on, and back till hour 3", y::last, 3);
    }

    /** 18: "NONE: at none, or there is no DRAW." At hour 0 nothing is begun, so there it always holds. */
    private static void lastIsNone() {
        Check.due("18: no draw, no work", () -> new BridgeNight().last(), -1);
        Check.due("18: no draw", () -> Nights.with("hours 1-1;back 0;").last(), -1);
        BridgeNight x = Nights.with("hours 1-1;");
        x.set(1, 0);
        Nights.draw(x, 0);
        Check.due("18: hour 0 holds", x::last, 0);
        Check.due("18: a new work, so no draw", () -> Check.tell(x, "hours 1-1;"), 1);
        Check.due("18: none", x::last, -1);
    }

    /** 19: "its dead end, from 0 on; -1: there are 30". */
    private static void trainBeyondThirty() {
        BridgeNight x = Nights.trains(29, 0, 1);
        Check.due("19: the 30th", () -> x.train(1000), 29);
        Check.due("19: a 31st", () -> x.train(999), -1);
        Check.due("19: a 31st that was told", () -> x.train(1000), -1);
        Check.isThrown("19: a 31st of no number", () -> x.train(-1), IAE);
        Check.due("19: 30", () -> x.count(3), 30);
        Check.due("19: all leave", x::leave, 30);
        Check.due("19: there is room again", () -> x.train(999), 0);
    }

    /** 19: "-2: its number was told." It does nothing. */
    private static void trainWhoseNumberWasTold() {
        BridgeNight x = Nights.trains(3, 0, 500);
        for (int number : new int[] {0, 500, 1000}) {
            Check.due("19: told " + number, () -> x.train(number), -2);
        }
        Check.due("19: three", () -> x.count(3), 3);
        Check.due("19: three dead ends", x::ends, 3);
        Check.due("19: next to one that was told", () -> x.train(501), 2);
    }

    /** 19: "IllegalArgumentException: the number." */
    private static void trainOfNoNumber() {
        BridgeNight x = new BridgeNight();
        for (int bad : new int[] {-1, -2, 1001, LEAST_INT, GREATEST_INT}) {
            Check.isThrown("19: " + bad, () -> x.train(bad), IAE);
        }
        Check.due("19: none came", () -> x.count(3), 0);
        Check.due("19: no dead end", x::ends, 0);
        Check.due("19: the greatest", () -> x.train(1000), 0);
        Check.due("19: the least", () -> x.train(0), 0);
    }

    /** 20: "How many dead ends there are": from none to 30. */
    private static void endsCountsDeadEnds() {
        BridgeNight x = new BridgeNight();
        Check.due("20: none", x::ends, 0);
        for (int t = 1; t <= 30; t++) {
            x.train(t);
            Check.due("20: " + t, x::ends, t);
        }
        Check.due("20: leave", x::leave, 30);
        Check.due("20: none again", x::ends, 0);
    }

    /** 21: "All TRAINS leave: how many." None is none. */
    private static void leaveTakesAll() {
        BridgeNight x = new BridgeNight();
        Check.due("21: none", x::leave, 0);
        x.train(5);
        Check.due("21: one", x::leave, 1);
        Check.due("21: none is left", x::leave, 0);
        Check.due("21: count", () -> x.count(3), 0);
        Check.due("21: none is to come out", () -> x.out(0), -1);
        Check.due("21: a greater one goes to the first dead end", () -> x.train(6), 0);
        Check.due("21: it leaves", x::leave, 1);
        Check.due("21: a less one goes there, too", () -> x.train(5), 0);
        Check.due("21: which is new", x::ends, 1);
        Check.due("21: another goes to a second one", () -> x.train(6), 1);
        BridgeNight full = Nights.trains(30, 100, 7);
        Check.due("21: thirty leave", full::leave, 30);
        for (int t = 0; t < 30; t++) {
            int number = t;
            Check.due("21: no dead end of theirs is left for " + t, () -> full.train(number), number);
        }
    }

    /** 22: "The k-th TRAIN that is to come out: its dead end; NONE." */
    private static void outOfNoSuchTrain() {
        BridgeNight x = new BridgeNight();
        Check.due("22: the first of none", () -> x.out(0), -1);
        Check.due("22: -1 of none", () -> x.out(-1), -1);
        int[] numbers = {500, 700, 1000, 600, 0};
        for (int number : numbers) {
            x.train(number);
        }
        int[] due = {0, 0, 1, 1, 2};
        for (int k = 0; k < 5; k++) {
            int asked = k;
            Check.due("22: out(" + k + ")", () -> x.out(asked), due[k]);
        }
        for (int bad : new int[] {-1, 5, 29, 30, LEAST_INT, GREATEST_INT}) {
            Check.due("22: out(" + bad + ")", () -> x.out(bad), -1);
        }
        BridgeNight full = Nights.trains(30, 1000, -1);
        Check.due("22: the last of 30", () -> full.out(29), 0);
        Check.due("22: none behind 30", () -> full.out(30), -1);
    }

    /** 23: "0 WORKS, 1 DRAWS, 2 numbers of NOISE, 3 TRAINS, 4 bytes of the TAPE; NONE for others." */
    private static void countOfAnotherWhat() {
        BridgeNight x = Nights.plain(16);
        for (int i = 0; i < 20; i++) {
            x.noise(i);
        }
        for (int t = 0; t < 30; t++) {
            x.train(t);
        }
        Check.feedText(x, " ".repeat(200));
        int[] full = {16, 0, 20, 30, 200};
        for (int what = 0; what < 5; what++) {
            int asked = what;
            Check.due("23: all that there can be of " + what, () -> x.count(asked), full[what]);
        }
        for (int d = 0; d < 20; d++) {
            Nights.draw(x, new int[16]);
        }
        Check.due("23: 20 draws", () -> x.count(1), 20);
        for (int bad : new int[] {-1, 5, 6, LEAST_INT, GREATEST_INT}) {
            Check.due("23: count(" + bad + ")", () -> x.count(bad), -1);
        }
    }
}
