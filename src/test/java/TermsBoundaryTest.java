/** Parts 1 to 4 of the terms but for texts: each sentence that names a boundary case, on its own. */
public final class TermsBoundaryTest {
    private static final Class<IllegalArgumentException> IAE = IllegalArgumentException.class;
    private static final Class<IllegalStateException> ISE = IllegalStateException.class;
    private static final int LEAST_INT = Integer.MIN_VALUE;
    private static final int GREATEST_INT = Integer.MAX_VALUE;

    public static void main(String[] args) {
        worksFromZeroToFifteen();
        crewFromOneToSixty();
        limitFromZeroToThousand();
        rowsOfLeastAndMost();
        twentyDrawsAtMost();
        twentyNumbersOfNoiseAtMost();
        noiseForEachWork();
        noiseWithoutSign();
        anotherWorkAndDrawsAreGone();
        orderByNumbersAtFirst();
        newOneIsLastOfTheOrder();
        beginsAtHourZeroAndWhereOneEnds();
        beginsInTheOrder();
        beginsWhenAllOthersHaveEnded();
        beginsWhenItsThingIsFree();
        beginsWhenItsHandsAreFree();
        endIsTheLastHour();
        endWithoutWorks();
        endIsNoneIfOneNeverBegins();
        bestOfAllOrders();
        bestByTheMostHoursFirst();
        bestByTheLeastHoursThen();
        bestByNumbersLast();
        bestOfSevenAtMost();
        partIsLimitOrLess();
        begunAheadOfTheHour();
        backIsTheHourAndAllBacks();
        noBackIfOneHasNone();
        lateIsWhatIsAboveLimit();
        onAndOffOfAllDraws();
        thirtyTrainsAtMost();
        trainsFromZeroToThousand();
        noTwoTrainsAlike();
        trainToTheLeastGreaterForemost();
        trainToANewDeadEnd();
        Check.finish();
    }

    /** "WORKS, numbered from 0 on, 16 at most". */
    private static void worksFromZeroToFifteen() {
        BridgeNight x = Nights.plain(16);
        Check.isThrown("a 17th work", () -> Check.tell(x, "hours 1-1;"), ISE);
        Check.due("works", () -> x.count(0), 16);
        Check.due("the first", () -> x.told(0, 0), 1);
        Check.due("the last", () -> x.told(15, 0), 1);
    }

    /** "CREW: so many HANDS in all (1 to 60; 30 at first)". */
    private static void crewFromOneToSixty() {
        Check.due("the first crew", () -> new BridgeNight().set(0, 30), 30);
        BridgeNight first = Nights.with("hours 1-1;hands 30;");
        Check.due("30 hands of the first crew", () -> first.end(0), 1);
        BridgeNight x = Nights.with("hours 1-1;hands 30;", "hours 1-1;hands 30;", "hours 1-1;hands 1;");
        x.set(0, 60);
        Nights.startsAre("60 hands", x, 0, 0, 0, 1);
        Check.isThrown("crew 61", () -> x.set(0, 61), IAE);
        Nights.startsAre("60 hands still", x, 0, 0, 0, 1);
        x.set(0, 1);
        Nights.startsAre("1 hand", x, 0, -1, -1, 0);
        Check.isThrown("crew 0", () -> x.set(0, 0), IAE);
        Nights.startsAre("1 hand still", x, 0, -1, -1, 0);
    }

    /** "LIMIT: an hour (0 to 1,000; 100 at first)". */
    private static void limitFromZeroToThousand() {
        Check.due("the first limit", () -> new BridgeNight().set(1, 100), 100);
        BridgeNight x = new BridgeNight();
        x.draw();
        Check.due("the first limit's last hour", x::last, 100);
        x.set(1, 0);
        Check.due("the limit 0", () -> x.off(1000), 1000);
        Check.isThrown("the limit -1", () -> x.set(1, -1), IAE);
        Check.due("the limit 0 still", () -> x.off(1000), 1000);
        x.set(1, 1000);
        Check.due("the limit 1000", () -> x.off(1000), 0);
        Check.isThrown("the limit 1001", () -> x.set(1, 1001), IAE);
        Check.due("the limit 1000 still", x::last, 1000);
    }

    /** "A ROW tells hours of all WORKS: 0 LEAST, 1 MOST, 2 and more: DRAWS". */
    private static void rowsOfLeastAndMost() {
        BridgeNight x = Nights.with("hours 1-40;", "hours 40-40;");
        Check.due("least", () -> x.hours(0, 0), 1);
        Check.due("most", () -> x.hours(1, 0), 40);
        Check.due("least is most", () -> x.hours(0, 1), 40);
        Check.isThrown("no row below 0", () -> x.hours(-1, 0), IAE);
        Check.isThrown("no draw", () -> x.hours(2, 0), IAE);
        Nights.draw(x, 7, 7);
        Check.due("the first draw", () -> x.hours(2, 0), 8);
        Check.due("the first draw between equal bounds", () -> x.hours(2, 1), 40);
        Check.isThrown("no second draw", () -> x.hours(3, 0), IAE);
    }

    /** "DRAWS, 20 at most". */
    private static void twentyDrawsAtMost() {
        BridgeNight x = Nights.with("hours 1-40;");
        for (int d = 0; d < 20; d++) {
            Nights.draw(x, d);
        }
        x.noise(39);
        Check.due("a 21st draw", x::draw, -1);
        Check.due("draws", () -> x.count(1), 20);
        Check.isThrown("no row of a 21st", () -> x.hours(22, 0), IAE);
        for (int d = 0; d < 20; d++) {
            int row = 2 + d;
            Check.due("draw " + d, () -> x.hours(row, 0), row - 1);
        }
    }

    /** "NOISE, a row of numbers, 20 at most": the 20th counts, the 21st does not. */
    private static void twentyNumbersOfNoiseAtMost() {
        BridgeNight x = Nights.alike(16, "hours 1-40;");
        for (int i = 0; i < 20; i++) {
            x.noise(i);
        }
        Check.due("a 21st number", () -> x.noise(30), -1);
        Check.due("numbers", () -> x.count(2), 20);
        Check.due("draw", x::draw, 2);
        Check.due("no number is left", () -> x.count(2), 0);
        for (int w = 0; w < 16; w++) {
            int work = w;
            Check.due("the number of work " + w, () -> x.hours(2, work), work + 1);
        }
    }

    /** "NOISE .. has one for each WORK": as many as works are enough, one less is not. */
    private static void noiseForEachWork() {
        for (int works = 1; works <= 16; works++) {
            BridgeNight x = Nights.alike(works, "hours 1-40;");
            for (int i = 1; i < works; i++) {
                x.noise(i);
            }
            Check.due("a number too few for " + works, x::draw, -2);
            x.noise(39);
            Check.due("a number for each of " + works, x::draw, 2);
            int last = works - 1;
            Check.due("the last number", () -> x.hours(2, last), 40);
        }
        BridgeNight none = new BridgeNight();
        Check.due("none for no work", none::draw, 2);
    }

    /** "what the number (without sign: 0 to 4,294,967,295) leaves by (MOST less LEAST and one)". */
    private static void noiseWithoutSign() {
        int[] numbers = {0, 1, 39, 40, -1, -2, -39, -40, -41, GREATEST_INT, LEAST_INT, LEAST_INT + 1};
        for (int most = 1; most <= 40; most++) {
            BridgeNight x = Nights.with("hours 1-" + most + ";");
            int width = most;
            for (int i = 0; i < numbers.length; i++) {
                Nights.draw(x, numbers[i]);
                int row = 2 + i;
                int due = 1 + (int) ((numbers[i] + (numbers[i] < 0 ? 4294967296L : 0L)) % width);
                Check.due(numbers[i] + " by " + width, () -> x.hours(row, 0), due);
            }
        }
        BridgeNight y = Nights.with("hours 38-40;");
        Nights.draw(y, -2);
        Check.due("4,294,967,294 leaves 2 by 3", () -> y.hours(2, 0), 40);
    }

    /** "Another WORK, and all DRAWS are gone": a text with a fault is none. */
    private static void anotherWorkAndDrawsAreGone() {
        BridgeNight x = Nights.with("hours 1-9;");
        Nights.draw(x, 4);
        Nights.draw(x, 5);
        x.noise(1);
        Check.due("a fault", () -> Check.tell(x, "hours 1-9"), -9);
        Check.due("draws stand", () -> x.count(1), 2);
        Check.isThrown("too many bytes", () -> x.work(1), IAE);
        Check.due("draws stand still", () -> x.count(1), 2);
        Check.due("their hours too", () -> x.hours(3, 0), 6);
        Check.due("another work", () -> Check.tell(x, "hours 1-9;"), 1);
        Check.due("no draws", () -> x.count(1), 0);
        Check.due("no part", x::part, 0);
        Check.due("no on", x::on, -1);
        Check.due("no off", () -> x.off(0), -1);
        Check.due("no last", x::last, -1);
        Check.isThrown("no row", () -> x.end(2), IAE);
        Check.due("noise stands", () -> x.count(2), 1);
        Nights.draw(x, 2);
        Check.due("a draw by the noise that stood", () -> x.hours(2, 0), 2);
        Check.due("and by the new one", () -> x.hours(2, 1), 3);
    }

    /** "ORDER: all WORKS, by numbers at first". */
    private static void orderByNumbersAtFirst() {
        Nights.orderIs("none", new BridgeNight(), -1);
        Nights.orderIs("one", Nights.plain(1), 0, -1);
        Nights.orderIs("sixteen", Nights.plain(16), 0, 1, 2, 3, 4, 5, 6, 7, 8, 9, 10, 11, 12, 13, 14, 15, -1);
    }

    /** "(a new one is its last)": behind moved ones too. */
    private static void newOneIsLastOfTheOrder() {
        BridgeNight x = Nights.plain(3);
        x.move(0, 2);
        Check.due("a fault", () -> Check.tell(x, "hours"), -9);
        Nights.orderIs("a fault leaves the order", x, 1, 2, 0, -1);
        Check.due("a new one", () -> Check.tell(x, "hours 1-1;"), 3);
        Nights.orderIs("the new one is the last", x, 1, 2, 0, 3, -1);
    }

    /** "at hour 0, and at each hour at which some WORK ends". */
    private static void beginsAtHourZeroAndWhereOneEnds() {
        BridgeNight x = Nights.with("hours 3-3;needs hole;", "hours 5-5;", "hours 1-1;needs hole;",
            "hours 2-2;after 2;", "hours 1-1;after 1;");
        Nights.startsAre("where one ends", x, 0, 0, 0, 3, 4, 5);
        Check.due("the end", () -> x.end(0), 6);
    }

    /** "WORK by WORK in the ORDER: one that is not begun begins, if ..": others pass one that waits. */
    private static void beginsInTheOrder() {
        BridgeNight x = Nights.with("hours 2-2;hands 20;", "hours 4-4;hands 20;", "hours 7-7;hands 10;");
        Nights.startsAre("one passes another that waits", x, 0, 0, 2, 0);
        x.move(1, 0);
        Nights.startsAre("the first of the order goes first", x, 0, 4, 0, 0);
        x.move(2, 0);
        Nights.startsAre("2, 1, 0", x, 0, 4, 0, 0);
        x.move(0, 1);
        Nights.startsAre("2, 0, 1", x, 0, 0, 2, 0);
    }

    /** "if all after which it is have ended": in the very hour, and not for one of two. */
    private static void beginsWhenAllOthersHaveEnded() {
        BridgeNight x = Nights.with("hours 2-2;", "hours 3-3;", "hours 1-1;after 0;", "hours 1-1;after 1 0;",
            "hours 1-1;after 2 3;");
        Nights.startsAre("after others", x, 0, 0, 0, 2, 3, 4);
        x.move(4, 0);
        x.move(3, 0);
        Nights.startsAre("after others that stand behind in the order", x, 0, 0, 0, 2, 3, 4);
    }

    /** "its THING is in no other WORK's use": none is no thing; free in the very hour of an end. */
    private static void beginsWhenItsThingIsFree() {
        for (String thing : new String[] {"track", "crane", "hole"}) {
            String needs = "needs " + thing + ";";
            BridgeNight x = Nights.with("hours 2-2;" + needs, "hours 3-3;" + needs, "hours 4-4;" + needs);
            Nights.startsAre(needs, x, 0, 0, 2, 5);
        }
        BridgeNight others = Nights.with("hours 9-9;needs track;", "hours 9-9;needs crane;", "hours 9-9;needs hole;",
            "hours 9-9;", "hours 9-9;");
        Nights.startsAre("other things, and none", others, 0, 0, 0, 0, 0, 0);
    }

    /** "and its HANDS are free": all that are left are enough, one more is not, 0 are always free. */
    private static void beginsWhenItsHandsAreFree() {
        BridgeNight x = Nights.with("hours 5-5;hands 20;", "hours 5-5;hands 10;", "hours 5-5;hands 0;");
        Nights.startsAre("just enough", x, 0, 0, 0, 0);
        x.set(0, 29);
        Nights.startsAre("one too few", x, 0, 0, 5, 0);
        x.set(0, 20);
        Nights.startsAre("no hand is free for 0 hands", x, 0, 0, 5, 0);
        BridgeNight y = Nights.with("hours 2-2;hands 10;", "hours 4-4;hands 10;", "hours 1-1;hands 30;");
        Nights.startsAre("when all hands are back", y, 0, 0, 0, 4);
    }

    /** "END is the last hour at which one ends": not the end of the one that began last. */
    private static void endIsTheLastHour() {
        BridgeNight x = Nights.with("hours 9-40;", "hours 2-2;hands 30;", "hours 3-3;hands 30;");
        Check.due("the long one", () -> x.end(0), 9);
        Check.due("the longer one", () -> x.end(1), 40);
        BridgeNight longest = Nights.alike(16, "hours 1-40;needs hole;");
        Check.due("16 in a row, by the most", () -> longest.end(1), 640);
        Check.due("16 in a row, by the least", () -> longest.end(0), 16);
        Check.due("the last of them begins", () -> longest.begins(1, 15), 600);
    }

    /** "(0 without WORKS)". */
    private static void endWithoutWorks() {
        BridgeNight x = new BridgeNight();
        Check.due("by the least", () -> x.end(0), 0);
        Check.due("by the most", () -> x.end(1), 0);
        x.draw();
        Check.due("by a draw", () -> x.end(2), 0);
    }

    /** "none, if something can never begin": one hand too few, and what is after such a one. */
    private static void endIsNoneIfOneNeverBegins() {
        BridgeNight x = Nights.with("hours 2-2;", "hours 3-3;hands 10;", "hours 1-1;after 1;", "hours 1-1;after 0;");
        Nights.draw(x, 0, 0, 0, 0);
        x.set(0, 10);
        for (int row = 0; row < 3; row++) {
            int asked = row;
            Check.due("hands enough", () -> x.end(asked), 4);
        }
        x.set(0, 9);
        for (int row = 0; row < 3; row++) {
            int asked = row;
            Check.due("a hand too few", () -> x.end(asked), -1);
            Nights.startsAre("the others begin", x, row, 0, -1, -1, 2);
        }
        BridgeNight alone = Nights.with("hours 1-1;hands 30;");
        alone.set(0, 29);
        Check.due("nothing begins", () -> alone.end(0), -1);
    }

    /** Orders that end at 5 by the least hours end at 11 by the most; 10 can be had with 6 or 7. */
    private static BridgeNight nightOfTwoAims() {
        return Nights.with("hours 1-4;hands 20;", "hours 3-6;hands 10;", "hours 2-5;hands 10;",
            "hours 4-4;hands 20;after 0;");
    }

    /** "of all ORDERS": those too in which a greater number stands right ahead of a less one. */
    private static void bestOfAllOrders() {
        BridgeNight after = Nights.with("hours 5-5;hands 30;", "hours 1-1;hands 1;", "hours 1-1;hands 1;after 1;",
            "hours 9-9;after 2;");
        Check.due("2 is after 1, and ahead of 0", after::best, 11);
        Nights.orderIs("2 is after 1, and ahead of 0", after, 1, 2, 0, 3, -1);
        String[][] rivals = {{"hands 1;", "hands 1;"}, {"hands 1;", "hands 2;"}, {"hands 2;", "hands 1;"},
            {"needs hole;", "needs hole;"}, {"needs crane;hands 1;", "needs crane;hands 0;"}};
        for (String[] pair : rivals) {
            BridgeNight x = Nights.with("hours 3-3;" + pair[0], "hours 2-2;" + pair[1], "hours 9-9;after 1;");
            x.set(0, pair[0].equals(pair[1]) ? 1 : 2);
            Check.due("1 ahead of 0", x::best, 11);
            Nights.orderIs("1 ahead of 0", x, 1, 0, 2, -1);
        }
    }

    /** "of all ORDERS those of the least END by ROW 1". */
    private static void bestByTheMostHoursFirst() {
        BridgeNight x = nightOfTwoAims();
        x.move(3, 0);
        Check.due("another order's end by the least", () -> x.end(0), 5);
        Check.due("and by the most", () -> x.end(1), 11);
        Check.due("best", x::best, 10);
        Check.due("its end by the most", () -> x.end(1), 10);
    }

    /** "of these those of the least END by ROW 0". */
    private static void bestByTheLeastHoursThen() {
        BridgeNight x = nightOfTwoAims();
        Check.due("by numbers, by the most", () -> x.end(1), 10);
        Check.due("by numbers, by the least", () -> x.end(0), 7);
        Check.due("best", x::best, 10);
        Check.due("its end by the least", () -> x.end(0), 6);
        Nights.orderIs("best", x, 0, 2, 1, 3, -1);
    }

    /** "of these the first, WORK by WORK by numbers". */
    private static void bestByNumbersLast() {
        BridgeNight x = Nights.alike(7, "hours 2-3;needs track;");
        for (int w = 0; w < 7; w++) {
            x.move(w, 0);
        }
        Nights.orderIs("before", x, 6, 5, 4, 3, 2, 1, 0);
        Check.due("all orders alike", x::best, 21);
        Nights.orderIs("by numbers", x, 0, 1, 2, 3, 4, 5, 6);
        BridgeNight y = Nights.with("hours 1-1;needs hole;", "hours 1-1;needs hole;", "hours 1-1;needs hole;",
            "hours 8-8;after 2;");
        Check.due("2 must be first", y::best, 9);
        Nights.orderIs("0 ahead of 1, and 2 ahead of both", y, 2, 0, 1, 3);
    }

    /** "It is told of 7 WORKS at most": of none, of one, of 7, but not of 8. */
    private static void bestOfSevenAtMost() {
        Check.due("of none", () -> new BridgeNight().best(), 0);
        Check.due("of one", () -> Nights.with("hours 3-4;").best(), 4);
        Check.due("of 7", () -> Nights.plain(7).best(), 1);
        Check.due("of 8", () -> Nights.plain(8).best(), -1);
        Check.due("of 16", () -> Nights.plain(16).best(), -1);
    }

    /** "PART: how many DRAWS have an END that is LIMIT or less". */
    private static void partIsLimitOrLess() {
        BridgeNight x = Nights.with("hours 1-40;hands 2;");
        for (int v : new int[] {9, 10, 10, 11, 39}) {
            Nights.draw(x, v);
        }
        int[][] due = {{0, 0}, {9, 0}, {10, 1}, {11, 3}, {12, 4}, {39, 4}, {40, 5}};
        for (int[] d : due) {
            x.set(1, d[0]);
            Check.due("part for the limit " + d[0], x::part, d[1]);
        }
        x.set(0, 1);
        Check.due("no end is not less", x::part, 0);
    }

    /** "those WORKS are begun that begin ahead of that hour": not in it. */
    private static void begunAheadOfTheHour() {
        BridgeNight x = Nights.with("hours 3-3;back 10;", "hours 3-3;back 20;after 0;");
        Nights.draw(x, 0, 0);
        x.set(1, 0);
        int[][] due = {{0, 0}, {1, 11}, {2, 12}, {3, 13}, {4, 34}, {5, 35}, {7, 37}};
        for (int[] d : due) {
            Check.due("off(" + d[0] + ")", () -> x.off(d[0]), d[1]);
        }
    }

    /** "BACK: that hour, and what BACK all of these have, together": those that have ended too. */
    private static void backIsTheHourAndAllBacks() {
        BridgeNight x = Nights.alike(16, "hours 1-1;back 40;");
        for (int d = 0; d < 20; d++) {
            Nights.draw(x, new int[16]);
        }
        x.set(1, 0);
        Check.due("nothing is begun", () -> x.off(0), 0);
        Check.due("all are begun, by all draws", () -> x.off(1), 20 * 641);
        Check.due("the latest hour", () -> x.off(1000), 20 * 1640);
        BridgeNight none = Nights.alike(3, "hours 1-1;back 0;");
        Nights.draw(none, 0, 0, 0);
        none.set(1, 0);
        Check.due("0 hours back", () -> none.off(5), 5);
    }

    /** "none, if one of these has no way BACK": one that begins later does not matter. */
    private static void noBackIfOneHasNone() {
        BridgeNight x = Nights.with("hours 3-3;back 0;", "hours 3-5;after 0;", "hours 1-1;back 0;after 1;");
        Nights.draw(x, 0, 0, 0);
        Check.due("in the hour in which it begins", () -> x.off(3), 0);
        Check.due("behind it", () -> x.off(4), -1);
        Check.due("when it has long ended", () -> x.off(1000), -1);
        BridgeNight never = Nights.with("hours 3-3;back 0;", "hours 3-3;hands 2;");
        Nights.draw(never, 0, 0);
        never.set(0, 1);
        Check.due("one that never begins", () -> never.off(1000), 900);
    }

    /** "LATE is what END, or BACK, is above LIMIT (0 if it is not)": no draw makes up for another. */
    private static void lateIsWhatIsAboveLimit() {
        BridgeNight x = Nights.with("hours 1-40;back 5;");
        Nights.draw(x, 9);
        Nights.draw(x, 29);
        int[][] due = {{9, 1 + 21}, {10, 20}, {11, 19}, {29, 1}, {30, 0}, {31, 0}, {1000, 0}};
        for (int[] d : due) {
            x.set(1, d[0]);
            Check.due("on() for the limit " + d[0], x::on, d[1]);
        }
        int[][] back = {{14, 2}, {15, 0}, {16, 0}, {0, 30}};
        for (int[] d : back) {
            x.set(1, d[0]);
            Check.due("off(10) for the limit " + d[0], () -> x.off(10), d[1]);
        }
    }

    /** "ON: what END of all DRAWS is LATE, together; OFF: what BACK of all is, together". */
    private static void onAndOffOfAllDraws() {
        BridgeNight x = Nights.with("hours 1-40;back 3;", "hours 1-1;back 4;after 0;");
        for (int d = 0; d < 20; d++) {
            Nights.draw(x, d, 0);
        }
        x.set(1, 0);
        Check.due("ends from 2 to 21", x::on, 230);
        Check.due("the first work in all, the second in none", () -> x.off(1), 20 * 4);
        Check.due("the second one in some", () -> x.off(11), 20 * 14 + 10 * 4);
        Check.due("the second one in all", () -> x.off(21), 20 * 28);
        Check.due("off(7) is 224, and off(8) 248", x::last, 7);
    }

    /** "TRAINS, 30 at most": in a dead end each, or all in one. */
    private static void thirtyTrainsAtMost() {
        BridgeNight each = Nights.trains(30, 100, 1);
        Check.due("a dead end each", each::ends, 30);
        Check.due("a 31st", () -> each.train(0), -1);
        Check.due("30 trains", () -> each.count(3), 30);
        Check.due("still 30 dead ends", each::ends, 30);
        BridgeNight one = Nights.trains(30, 500, -1);
        Check.due("one dead end", one::ends, 1);
        Check.due("a 31st", () -> one.train(0), -1);
        Check.due("the last one out", () -> one.out(29), 0);
        Check.due("none behind it", () -> one.out(30), -1);
    }

    /** "each with a number (0 to 1,000". */
    private static void trainsFromZeroToThousand() {
        BridgeNight x = new BridgeNight();
        Check.isThrown("-1", () -> x.train(-1), IAE);
        Check.isThrown("1001", () -> x.train(1001), IAE);
        Check.due("none came", () -> x.count(3), 0);
        Check.due("1000", () -> x.train(1000), 0);
        Check.due("0", () -> x.train(0), 0);
        Check.due("1", () -> x.train(1), 1);
        Check.due("999", () -> x.train(999), 2);
    }

    /** "no two alike)": as long as they are there. */
    private static void noTwoTrainsAlike() {
        BridgeNight x = Nights.trains(29, 10, 1);
        for (int number = 10; number < 39; number++) {
            int told = number;
            Check.due("told: " + number, () -> x.train(told), -2);
        }
        Check.due("none came", () -> x.count(3), 29);
        Check.due("one that was not told", () -> x.train(39), 29);
        x.leave();
        Check.due("they have left", () -> x.train(10), 0);
        Check.due("told again", () -> x.train(10), -2);
    }

    /** "to that one of those in which the foremost has a greater number whose foremost has the least". */
    private static void trainToTheLeastGreaterForemost() {
        BridgeNight x = Nights.trains(4, 10, 10);
        Check.due("just below the third", () -> x.train(29), 2);
        Check.due("just above what is now the third's foremost", () -> x.train(31), 3);
        Check.due("below all", () -> x.train(9), 0);
        Check.due("below the second", () -> x.train(11), 1);
        Check.due("below the third", () -> x.train(12), 2);
        Check.due("below the fourth", () -> x.train(13), 3);
        Check.due("below the first again", () -> x.train(0), 0);
    }

    /** "if there is none, to a new one". */
    private static void trainToANewDeadEnd() {
        BridgeNight x = new BridgeNight();
        Check.due("the first train", () -> x.train(500), 0);
        Check.due("one above it", () -> x.train(501), 1);
        Check.due("one below it", () -> x.train(499), 0);
        Check.due("one above all that are foremost", () -> x.train(502), 2);
        Check.due("one below all of them", () -> x.train(498), 0);
        Check.due("dead ends", x::ends, 3);
    }
}
