/** Promises 1 to 23, one by one: ordinary inputs, the edges that the document names, wrong inputs. */
public final class PromiseTest {
    private static final Class<IllegalArgumentException> IAE = IllegalArgumentException.class;
    private static final Class<IllegalStateException> ISE = IllegalStateException.class;
    private static final Class<IndexOutOfBoundsException> IOOBE = IndexOutOfBoundsException.class;
    private static final int LEAST_INT = Integer.MIN_VALUE;
    private static final int GREATEST_INT = Integer.MAX_VALUE;

    public static void main(String[] args) {
        newObject();
        feed();
        workTakesTheTape();
        workThrows();
        faultOfTheLatest();
        told();
        set();
        noise();
        draw();
        drawsAreGone();
        hours();
        endAndBegins();
        thingsHandsAndAfter();
        whatNeverBegins();
        best();
        bestByLeastHours();
        bestOfFewHands();
        bestIsNotTold();
        orderAndMove();
        partAndOn();
        off();
        last();
        lastAtEachHour();
        lastWithoutOn();
        drawsWithoutWorks();
        train();
        trainAtTheBounds();
        outAndLeave();
        count();
        Check.finish();
    }

    private static void newObject() {
        BridgeNight x = new BridgeNight();
        for (int what = 0; what < 5; what++) {
            int asked = what;
            Check.due("1: count(" + what + ")", () -> x.count(asked), 0);
        }
        Check.due("1: fault()", x::fault, -1);
        Check.due("1: ends()", x::ends, 0);
        Check.due("1: end(0)", () -> x.end(0), 0);
        Check.due("1: end(1)", () -> x.end(1), 0);
        Check.due("1: best()", x::best, 0);
        Check.due("1: part()", x::part, 0);
        Check.due("1: on()", x::on, -1);
        Check.due("1: off(0)", () -> x.off(0), -1);
        Check.due("1: last()", x::last, -1);
        Check.due("1: crew", () -> x.set(0, 1), 30);
        Check.due("1: limit", () -> x.set(1, 0), 100);
    }

    private static void feed() {
        BridgeNight x = new BridgeNight();
        for (int i = 1; i <= 10; i++) {
            Check.due("2: feed " + i, () -> x.feed(0x686f7572, 0x7320322d, 0x333b2020, 0x20202020, 0x20202020),
                20 * i);
        }
        Check.due("2: feed beyond 200", () -> x.feed(0, 0, 0, 0, 0), -1);
        Check.due("2: bytes", () -> x.count(4), 200);
        Check.due("2: the bytes in their order", () -> x.work(20), 0);
        Check.due("2: least", () -> x.told(0, 0), 2);
        Check.due("2: most", () -> x.told(0, 1), 3);
        Check.due("2: the tape is empty", () -> x.feed(-1, -1, -1, -1, -1), 20);
        Check.due("2: a byte of 255", () -> x.work(20), -9);
        Check.due("2: at its place", x::fault, 0);
    }

    private static void workTakesTheTape() {
        BridgeNight x = new BridgeNight();
        Check.feedText(x, "hours 1-2;back 3;xxx");
        Check.due("3: the first bytes alone", () -> x.work(10), 0);
        Check.due("3: no way back", () -> x.told(0, 4), -1);
        Check.due("3: the tape is empty", () -> x.count(4), 0);
        Check.feedText(x, "hours 1-2;back 3;xxx");
        Check.due("3: all bytes", () -> x.work(20), -9);
        Check.due("3: the place", x::fault, 17);
        Check.due("3: the tape is empty behind a fault", () -> x.count(4), 0);
        String full = "hours 1-2;" + " ".repeat(190);
        Check.due("3: 200 bytes", () -> Check.tell(x, full), 1);
        Check.due("3: no bytes", () -> x.work(0), -7);
        Check.feedText(x, "hours 1-2;");
        Check.due("3: none of some bytes", () -> x.work(0), -7);
        Check.due("3: the tape is empty behind none", () -> x.count(4), 0);
    }

    private static void workThrows() {
        BridgeNight x = new BridgeNight();
        Check.isThrown("3: work(1) of an empty tape", () -> x.work(1), IAE);
        Check.feedText(x, "hours 1-2;");
        for (int n : new int[] {-1, 21, LEAST_INT, GREATEST_INT}) {
            Check.isThrown("3: work(" + n + ")", () -> x.work(n), IAE);
        }
        Check.due("3: the tape stays", () -> x.count(4), 20);
        Check.due("3: the tape is read", () -> x.work(10), 0);
        for (int w = 1; w < 16; w++) {
            int before = w - 1;
            int number = w;
            Check.due("3: work " + w, () -> Check.tell(x, "hours 1-1;after " + before + ";"), number);
        }
        Check.isThrown("3: a 17th", () -> Check.tell(x, "hours 1-2;"), ISE);
        Check.isThrown("3: a 17th of 0 bytes", () -> x.work(0), ISE);
        Check.isThrown("3: a 17th of too many bytes", () -> x.work(21), IAE);
        Check.due("3: works", () -> x.count(0), 16);
        Check.due("3: no fault", x::fault, -1);
        Check.due("3: bits of the last", () -> x.told(15, 5), 1 << 14);
        Check.due("3: all 16 in a row", () -> x.end(0), 16);
    }

    private static void faultOfTheLatest() {
        BridgeNight x = new BridgeNight();
        Check.due("4: without a work()", x::fault, -1);
        Check.due("4: a fault", () -> Check.tell(x, "hours 1-2"), -9);
        Check.due("4: its place", x::fault, 9);
        Check.due("4: its place again", x::fault, 9);
        Check.due("4: another fault", () -> Check.tell(x, "hours 1-50;"), -8);
        Check.due("4: its place", x::fault, 8);
        Check.due("4: no fault", () -> Check.tell(x, "hours 1-2;"), 0);
        Check.due("4: no place", x::fault, -1);
    }

    private static void told() {
        BridgeNight x = Nights.with("hours 3-5;", "needs hole;hands 30;back 40;after 0;hours 7-40;");
        int[] first = {3, 5, 0, 0, -1, 0};
        int[] second = {7, 40, 3, 30, 40, 1};
        for (int what = 0; what < 6; what++) {
            int asked = what;
            Check.due("5: told(0, " + what + ")", () -> x.told(0, asked), first[what]);
            Check.due("5: told(1, " + what + ")", () -> x.told(1, asked), second[what]);
        }
        for (int bad : new int[] {-1, 2, 16, LEAST_INT, GREATEST_INT}) {
            Check.isThrown("5: told(" + bad + ", 0)", () -> x.told(bad, 0), IOOBE);
            Check.isThrown("5: told(" + bad + ", 6)", () -> x.told(bad, 6), IOOBE);
        }
        for (int bad : new int[] {-1, 6, LEAST_INT, GREATEST_INT}) {
            Check.isThrown("5: told(1, " + bad + ")", () -> x.told(1, bad), IAE);
        }
    }

    private static void set() {
        BridgeNight x = new BridgeNight();
        Check.due("6: crew 60", () -> x.set(0, 60), 30);
        Check.due("6: crew 1", () -> x.set(0, 1), 60);
        Check.due("6: limit 1000", () -> x.set(1, 1000), 100);
        Check.due("6: limit 0", () -> x.set(1, 0), 1000);
        for (int bad : new int[] {0, 61, -1, LEAST_INT, GREATEST_INT}) {
            Check.isThrown("6: crew " + bad, () -> x.set(0, bad), IAE);
        }
        for (int bad : new int[] {-1, 1001, LEAST_INT, GREATEST_INT}) {
            Check.isThrown("6: limit " + bad, () -> x.set(1, bad), IAE);
        }
        for (int bad : new int[] {-1, 2, LEAST_INT, GREATEST_INT}) {
            Check.isThrown("6: what " + bad, () -> x.set(bad, 5), IAE);
        }
        Check.due("6: the crew stands", () -> x.set(0, 2), 1);
        Check.due("6: the limit stands", () -> x.set(1, 2), 0);
    }

    private static void noise() {
        BridgeNight x = new BridgeNight();
        for (int i = 1; i <= 20; i++) {
            int number = i;
            Check.due("7: number " + i, () -> x.noise(-number), number);
        }
        Check.due("7: a 21st", () -> x.noise(5), -1);
        Check.due("7: numbers", () -> x.count(2), 20);
    }

    private static void draw() {
        BridgeNight x = Nights.with("hours 3-5;", "hours 1-40;");
        Check.due("8: no noise", x::draw, -2);
        x.noise(7);
        Check.due("8: too little noise", x::draw, -2);
        Check.due("8: the noise stays", () -> x.count(2), 1);
        x.noise(39);
        x.noise(1);
        Check.due("8: more noise than works", x::draw, 2);
        Check.due("8: the noise is gone", () -> x.count(2), 0);
        Check.due("8: 7 leaves 1 by 3", () -> x.hours(2, 0), 4);
        Check.due("8: 39 leaves 39 by 40", () -> x.hours(2, 1), 40);
        Nights.draw(x, -1, -1);
        Check.due("8: 4,294,967,295 leaves 0 by 3", () -> x.hours(3, 0), 3);
        Check.due("8: 4,294,967,295 leaves 15 by 40", () -> x.hours(3, 1), 16);
        Nights.draw(x, LEAST_INT, LEAST_INT);
        Check.due("8: 2,147,483,648 leaves 2 by 3", () -> x.hours(4, 0), 5);
        Check.due("8: 2,147,483,648 leaves 8 by 40", () -> x.hours(4, 1), 9);
        for (int row = 5; row < 22; row++) {
            Nights.draw(x, row, row);
        }
        Check.due("8: a 21st without noise", x::draw, -1);
        x.noise(0);
        x.noise(0);
        Check.due("8: a 21st", x::draw, -1);
        Check.due("8: its noise stays", () -> x.count(2), 2);
        Check.due("8: draws", () -> x.count(1), 20);
        Check.due("8: the last row", () -> x.hours(21, 1), 22);
        Check.due("8: the first row stands", () -> x.hours(2, 0), 4);
    }

    private static void drawsAreGone() {
        BridgeNight x = Nights.with("hours 3-5;");
        Nights.draw(x, 1);
        x.noise(2);
        Check.due("2: a fault", () -> Check.tell(x, "hours"), -9);
        Check.due("2: the draw stands behind a fault", () -> x.end(2), 4);
        Check.due("2: another crew", () -> x.set(0, 5), 30);
        Check.due("2: the draw stands behind another crew", () -> x.end(2), 4);
        Check.due("2: another work", () -> Check.tell(x, "hours 1-1;"), 1);
        Check.due("2: draws are gone", () -> x.count(1), 0);
        Check.due("2: noise is not", () -> x.count(2), 1);
        Check.isThrown("2: no such row", () -> x.end(2), IAE);
        Nights.draw(x, 3);
        Check.due("2: drawn anew", () -> x.hours(2, 0), 5);
    }

    private static void hours() {
        BridgeNight x = Nights.with("hours 3-5;", "hours 1-9;");
        Nights.draw(x, 1, 10);
        int[][] due = {{3, 1}, {5, 9}, {4, 2}};
        for (int row = 0; row < 3; row++) {
            int r = row;
            Check.due("9: hours(" + row + ", 0)", () -> x.hours(r, 0), due[row][0]);
            Check.due("9: hours(" + row + ", 1)", () -> x.hours(r, 1), due[row][1]);
        }
        for (int bad : new int[] {-1, 2, LEAST_INT, GREATEST_INT}) {
            Check.isThrown("9: work " + bad, () -> x.hours(0, bad), IOOBE);
            Check.isThrown("9: work and row " + bad, () -> x.hours(bad == 2 ? 3 : bad, bad), IOOBE);
            Check.isThrown("11: work " + bad, () -> x.begins(0, bad), IOOBE);
            Check.isThrown("11: work and row " + bad, () -> x.begins(bad == 2 ? 3 : bad, bad), IOOBE);
        }
        for (int bad : new int[] {-1, 3, 22, LEAST_INT, GREATEST_INT}) {
            Check.isThrown("9: row " + bad, () -> x.hours(bad, 0), IAE);
            Check.isThrown("10: row " + bad, () -> x.end(bad), IAE);
            Check.isThrown("11: row " + bad, () -> x.begins(bad, 0), IAE);
        }
    }

    private static void endAndBegins() {
        BridgeNight x = Nights.with("hours 3-5;", "hours 2-2;after 0;", "hours 4-9;needs crane;hands 10;",
            "hands 25;after 1;needs crane;hours 1-1;");
        Nights.startsAre("10, 11", x, 0, 0, 3, 0, 5);
        Nights.startsAre("10, 11", x, 1, 0, 5, 0, 9);
        Nights.draw(x, 2, 0, 0, 0);
        Nights.startsAre("10, 11", x, 2, 0, 5, 0, 7);
        Check.due("10: by the least", () -> x.end(0), 6);
        Check.due("10: by the most", () -> x.end(1), 10);
        Check.due("10: by a draw", () -> x.end(2), 8);
    }

    private static void thingsHandsAndAfter() {
        BridgeNight one = Nights.with("hours 2-2;needs track;", "hours 3-3;needs track;", "hours 4-4;needs crane;",
            "hours 1-1;needs hole;", "hours 6-6;", "hours 5-5;");
        Nights.startsAre("10: a thing is used by one, none by all", one, 0, 0, 2, 0, 0, 0, 0);
        BridgeNight hands = Nights.with("hours 2-2;hands 20;", "hours 3-3;hands 11;", "hours 4-4;hands 10;",
            "hours 9-9;");
        Nights.startsAre("10: hands, and a later one that goes ahead", hands, 0, 0, 2, 0, 0);
        hands.set(0, 31);
        Nights.startsAre("10: 31 hands", hands, 0, 0, 0, 2, 0);
        hands.set(0, 20);
        Nights.startsAre("10: 20 hands", hands, 0, 0, 2, 5, 0);
        BridgeNight both = Nights.with("hours 3-3;", "hours 5-5;", "hours 1-1;after 0 1;", "hours 1-1;after 0;");
        Nights.startsAre("10: after all of these", both, 0, 0, 0, 5, 3);
        BridgeNight ends = Nights.with("hours 2-2;needs track;hands 30;", "hours 2-2;needs track;after 0;hands 30;",
            "hours 1-1;hands 30;");
        Nights.startsAre("10: what ends is free in the same hour", ends, 0, 0, 2, 4);
        ends.move(2, 0);
        Nights.startsAre("10: the order decides", ends, 0, 1, 3, 0);
        Check.due("10: the end", () -> ends.end(0), 5);
    }

    private static void whatNeverBegins() {
        BridgeNight x = Nights.with("hours 2-3;hands 25;", "hours 1-1;after 0;", "hours 4-4;hands 24;",
            "hours 1-1;after 2;");
        Check.due("10: crew 24", () -> x.set(0, 24), 30);
        Check.due("10: no end", () -> x.end(0), -1);
        Check.due("12: no end for any", x::best, -1);
        Nights.startsAre("11: never", x, 1, -1, -1, 0, 4);
        Check.due("10: crew 25", () -> x.set(0, 25), 24);
        Check.due("10: an end", () -> x.end(1), 8);
        Nights.startsAre("11: it begins", x, 1, 0, 3, 3, 7);
    }

    private static void best() {
        BridgeNight x = Nights.with("hours 1-1;needs track;", "hours 5-5;needs track;after 0;",
            "hours 2-2;needs track;", "hours 9-9;after 2;");
        Check.due("12: before", () -> x.end(1), 17);
        Check.due("12: best", x::best, 11);
        Nights.orderIs("12: the first of the best", x, 1, 2, 0, 3);
        Check.due("12: its end", () -> x.end(1), 11);
        Check.due("12: again", x::best, 11);
        Check.due("12: another work", () -> Check.tell(x, "hours 1-1;hands 30;"), 4);
        Nights.orderIs("12: it is the last", x, 1, 2, 0, 3, 4);
        Check.due("12: best of five", x::best, 11);
        Nights.orderIs("12: five", x, 1, 2, 0, 3, 4);
        BridgeNight y = Nights.with("hours 3-3;hands 20;", "hours 2-2;hands 20;", "hours 4-4;hands 10;");
        Check.due("12: crew 30", y::best, 5);
        Nights.orderIs("12: crew 30", y, 0, 1, 2);
        y.set(0, 29);
        Check.due("12: crew 29", y::best, 9);
        y.set(0, 50);
        Check.due("12: crew 50", y::best, 4);
        Nights.orderIs("12: crew 50", y, 0, 1, 2);
    }

    /** By the most hours all orders end at 10; by the least, 2 goes along with one of the others. */
    private static void bestByLeastHours() {
        BridgeNight x = Nights.with("hours 1-5;hands 20;", "hours 2-5;hands 20;", "hours 2-5;hands 10;");
        x.move(2, 0);
        Check.due("12: by the most", x::best, 10);
        Check.due("12: by the least", () -> x.end(0), 3);
        Nights.orderIs("12: the first of both", x, 0, 1, 2);
        BridgeNight y = Nights.with("hours 1-4;hands 15;", "hours 1-4;hands 15;", "hours 3-4;hands 15;");
        Check.due("12: all orders alike by the most", () -> y.end(1), 8);
        Check.due("12: not by the least", () -> y.end(0), 4);
        Check.due("12: the best by the most", y::best, 8);
        Check.due("12: the best by the least", () -> y.end(0), 3);
        Nights.orderIs("12: the least of these", y, 0, 2, 1);
    }

    private static void bestOfFewHands() {
        secondGoesFirst("hands 1;", "hands 1;", 1);
        secondGoesFirst("hands 1;", "hands 2;", 2);
        secondGoesFirst("hands 2;", "hands 1;", 2);
        secondGoesFirst("needs hole;", "needs hole;", 30);
        BridgeNight y = Nights.with("hours 3-3;needs hole;", "hours 2-2;needs crane;hands 2;", "hours 9-9;after 1;");
        Check.due("12: none in another's way", y::best, 11);
        Nights.orderIs("12: none in another's way", y, 0, 1, 2);
    }

    /** Two works of which one alone can go at a time, and a long third one behind the second. */
    private static void secondGoesFirst(String first, String second, int crew) {
        BridgeNight x = Nights.with("hours 3-3;" + first, "hours 2-2;" + second, "hours 9-9;after 1;");
        x.set(0, crew);
        Check.due("12: " + first + second, x::best, 11);
        Nights.orderIs("12: " + first + second, x, 1, 0, 2);
    }

    private static void bestIsNotTold() {
        String[] texts = new String[8];
        for (int w = 0; w < 8; w++) {
            texts[w] = "hours 1-1;hands 30;";
        }
        BridgeNight x = Nights.with(texts);
        x.move(7, 0);
        Check.due("12: 8 works", x::best, -1);
        Nights.orderIs("12: nothing changes", x, 7, 0, 1, 2, 3, 4, 5, 6, -1);
        BridgeNight y = Nights.with("hours 1-2;hands 2;", "hours 1-2;");
        y.move(1, 0);
        y.set(0, 1);
        Check.due("12: no end", y::best, -1);
        Nights.orderIs("12: nothing changes without an end", y, 1, 0);
        BridgeNight z = Nights.with("hours 1-1;", "hours 1-1;", "hours 1-1;", "hours 1-1;", "hours 1-1;", "hours 1-1;",
            "hours 1-1;hands 30;");
        z.move(6, 0);
        Check.due("12: 7 works", z::best, 1);
        Nights.orderIs("12: 7 works", z, 0, 1, 2, 3, 4, 5, 6);
    }

    private static void orderAndMove() {
        BridgeNight x = Nights.with("hours 1-1;", "hours 1-1;", "hours 1-1;", "hours 1-1;", "hours 1-1;");
        Nights.orderIs("13: by numbers", x, 0, 1, 2, 3, 4, -1);
        for (int bad : new int[] {-1, 5, 16, LEAST_INT, GREATEST_INT}) {
            Check.due("13: order(" + bad + ")", () -> x.order(bad), -1);
            Check.isThrown("14: work " + bad, () -> x.move(bad, 0), IOOBE);
            Check.isThrown("14: work and place " + bad, () -> x.move(bad, bad), IOOBE);
            Check.isThrown("14: place " + bad, () -> x.move(0, bad), IAE);
        }
        Check.due("14: to the left", () -> x.move(3, 1), 3);
        Nights.orderIs("14: to the left", x, 0, 3, 1, 2, 4);
        Check.due("14: to the right", () -> x.move(0, 4), 0);
        Nights.orderIs("14: to the right", x, 3, 1, 2, 4, 0);
        Check.due("14: to its own place", () -> x.move(2, 2), 2);
        Nights.orderIs("14: to its own place", x, 3, 1, 2, 4, 0);
        Check.due("14: to the first place", () -> x.move(0, 0), 4);
        Nights.orderIs("14: to the first place", x, 0, 3, 1, 2, 4);
        Check.due("13: a new one", () -> Check.tell(x, "hours 1-1;"), 5);
        Nights.orderIs("13: a new one is the last", x, 0, 3, 1, 2, 4, 5, -1);
    }

    /** Two draws that end at 3 and at 7. */
    private static BridgeNight withTwoDraws() {
        BridgeNight x = Nights.with("hours 1-5;back 2;hands 30;", "hours 2-2;back 3;hands 30;");
        Nights.draw(x, 0, 0);
        Nights.draw(x, 4, 0);
        return x;
    }

    private static void partAndOn() {
        BridgeNight x = withTwoDraws();
        int[][] due = {{0, 0, 10}, {2, 0, 6}, {3, 1, 4}, {6, 1, 1}, {7, 2, 0}, {1000, 2, 0}};
        for (int[] d : due) {
            x.set(1, d[0]);
            Check.due("15: part() for the limit " + d[0], x::part, d[1]);
            Check.due("16: on() for the limit " + d[0], x::on, d[2]);
        }
        x.set(0, 29);
        Check.due("15: no end is not within", x::part, 0);
        Check.due("16: no end", x::on, -1);
    }

    private static void off() {
        BridgeNight x = withTwoDraws();
        x.set(1, 0);
        int[][] due = {{0, 0}, {1, 6}, {2, 11}, {5, 17}, {6, 22}, {1000, 2010}};
        for (int[] d : due) {
            Check.due("17: off(" + d[0] + ")", () -> x.off(d[0]), d[1]);
        }
        x.set(1, 6);
        Check.due("17: what is above the limit", () -> x.off(2), 1);
        Check.due("17: what is not above the limit", () -> x.off(1), 0);
        for (int bad : new int[] {-1, 1001, LEAST_INT, GREATEST_INT}) {
            Check.isThrown("17: hour " + bad, () -> x.off(bad), IAE);
            Check.isThrown("17: hour " + bad + " without a draw", () -> new BridgeNight().off(bad), IAE);
        }
        BridgeNight y = Nights.with("hours 1-5;back 0;hands 30;", "hours 2-2;hands 30;");
        Check.due("17: no draw", () -> y.off(0), -1);
        Nights.draw(y, 4, 0);
        Nights.draw(y, 0, 0);
        Check.due("17: back by all", () -> y.off(1), 0);
        Check.due("17: no back by some", () -> y.off(2), -1);
    }

    private static void last() {
        BridgeNight x = withTwoDraws();
        int[][] due = {{0, 1}, {2, 1}, {3, 1}, {4, 2}, {7, 2}, {100, 95}, {1000, 995}};
        for (int[] d : due) {
            x.set(1, d[0]);
            Check.due("18: last() for the limit " + d[0], x::last, d[1]);
        }
        BridgeNight y = Nights.with("hours 3-3;hands 30;back 40;", "hours 3-3;hands 30;");
        Check.due("18: no draw", y::last, -1);
        Nights.draw(y, 0, 0);
        Check.due("18: till back is missing", y::last, 3);
        y.set(1, 0);
        Check.due("18: at hour 0", y::last, 0);
        BridgeNight z = Nights.with("hours 1-1;back 0;");
        Nights.draw(z, 0);
        z.set(1, 1000);
        Check.due("18: all hours", z::last, 1000);
    }

    /** Without works BACK is the hour itself, and END is 0: so the LIMIT is the last hour. */
    private static void lastAtEachHour() {
        for (int hour = 0; hour <= 1000; hour++) {
            BridgeNight x = new BridgeNight();
            x.draw();
            x.set(1, hour);
            Check.due("18: the limit is the last hour", x::last, hour);
        }
    }

    private static void lastWithoutOn() {
        BridgeNight x = Nights.with("hours 3-3;hands 30;back 1;", "hours 4-4;hands 1;");
        Nights.draw(x, 0, 0);
        x.set(1, 0);
        x.set(0, 29);
        Check.due("18: what never begins", () -> x.begins(2, 0), -1);
        Check.due("18: no on", x::on, -1);
        Check.due("18: till one without a way back begins", x::last, 0);
        BridgeNight y = Nights.with("hours 3-3;hands 30;", "hours 4-4;hands 1;back 40;");
        Nights.draw(y, 0, 0);
        y.set(1, 0);
        y.set(0, 29);
        Check.due("18: without on, off may be great", y::last, 1000);
        Check.due("18: off", () -> y.off(1000), 1040);
    }

    private static void drawsWithoutWorks() {
        BridgeNight x = new BridgeNight();
        Check.due("8: without works", x::draw, 2);
        Check.due("8: another", x::draw, 3);
        Check.due("10: without works", () -> x.end(3), 0);
        Check.due("15: without works", x::part, 2);
        Check.due("16: without works", x::on, 0);
        Check.due("17: without works", () -> x.off(110), 20);
        Check.due("18: without works", x::last, 100);
        Check.isThrown("9: without works", () -> x.hours(2, 0), IOOBE);
        Check.isThrown("14: without works", () -> x.move(0, 0), IOOBE);
        Check.due("13: without works", () -> x.order(0), -1);
    }

    private static void train() {
        BridgeNight x = new BridgeNight();
        int[][] due = {{500, 0}, {700, 1}, {600, 1}, {900, 2}, {550, 1}, {520, 1}, {800, 2}, {499, 0}, {510, 1},
            {505, 1}};
        for (int[] d : due) {
            Check.due("19: train(" + d[0] + ")", () -> x.train(d[0]), d[1]);
        }
        Check.due("19: its number was told", () -> x.train(700), -2);
        Check.due("19: the latest number was told", () -> x.train(505), -2);
        Check.due("20: dead ends", x::ends, 3);
        Check.due("23: trains", () -> x.count(3), 10);
    }

    private static void trainAtTheBounds() {
        BridgeNight x = new BridgeNight();
        for (int bad : new int[] {-1, 1001, LEAST_INT, GREATEST_INT}) {
            Check.isThrown("19: train(" + bad + ")", () -> x.train(bad), IAE);
        }
        Check.due("19: no train came", () -> x.count(3), 0);
        Check.due("19: 0", () -> x.train(0), 0);
        Check.due("19: 1000", () -> x.train(1000), 1);
        for (int i = 2; i < 30; i++) {
            int number = i;
            Check.due("19: train " + i, () -> x.train(number), number == 2 ? 1 : number - 1);
        }
        Check.due("19: a 31st", () -> x.train(999), -1);
        Check.due("19: a 31st that was told", () -> x.train(0), -1);
        Check.isThrown("19: a 31st that is no number", () -> x.train(1001), IAE);
        Check.due("20: dead ends", x::ends, 29);
        Check.due("22: the last one", () -> x.out(29), 1);
        Check.due("22: none behind it", () -> x.out(30), -1);
        Check.due("21: all leave", x::leave, 30);
    }

    private static void outAndLeave() {
        BridgeNight x = new BridgeNight();
        Check.due("22: none", () -> x.out(0), -1);
        Check.due("21: none", x::leave, 0);
        for (int number : new int[] {5, 8, 3, 9, 7}) {
            x.train(number);
        }
        int[] due = {0, 0, 1, 1, 2};
        for (int k = 0; k < due.length; k++) {
            int place = k;
            Check.due("22: out(" + k + ")", () -> x.out(place), due[k]);
        }
        for (int bad : new int[] {-1, 5, LEAST_INT, GREATEST_INT}) {
            Check.due("22: out(" + bad + ")", () -> x.out(bad), -1);
        }
        Check.due("22: they stand still", () -> x.count(3), 5);
        Check.due("21: leave()", x::leave, 5);
        Check.due("21: none is left", x::leave, 0);
        Check.due("20: no dead ends", x::ends, 0);
        Check.due("22: none is to come", () -> x.out(0), -1);
        Check.due("19: a number again", () -> x.train(8), 0);
        Check.due("20: one dead end", x::ends, 1);
    }

    private static void count() {
        BridgeNight x = Nights.with("hours 1-1;", "hours 1-1;");
        Nights.draw(x, 1, 2);
        Nights.draw(x, 1, 2);
        Nights.draw(x, 1, 2);
        for (int i = 0; i < 5; i++) {
            x.noise(i);
        }
        x.train(1);
        x.feed(0, 0, 0, 0, 0);
        x.feed(0, 0, 0, 0, 0);
        int[] due = {2, 3, 5, 1, 40};
        for (int what = 0; what < due.length; what++) {
            int asked = what;
            Check.due("23: count(" + what + ")", () -> x.count(asked), due[what]);
        }
        for (int bad : new int[] {-1, 5, LEAST_INT, GREATEST_INT}) {
            Check.due("23: count(" + bad + ")", () -> x.count(bad), -1);
        }
    }
}
