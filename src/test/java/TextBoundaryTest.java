/** Part 1 of the terms: each sentence on texts that names a boundary case, with a test of its own. */
public final class TextBoundaryTest {
    private static final String HOURS = "hours 1-2;";
    private static final String ALL_BITS = "32767";

    public static void main(String[] args) {
        textsOfNoClause();
        clausesEndWithSemicolons();
        hoursFromOneToForty();
        secondHoursBelowTheFirst();
        needsOneOfThreeThings();
        handsFromZeroToThirty();
        backFromZeroToForty();
        afterOneAtLeast();
        afterEarlierWorks();
        numbersAreAllTheirDigits();
        numbersDoNotWrapAround();
        wordsAreAllTheirLetters();
        blanksAheadOfAll();
        blanksAtTheEnd();
        blankIsThirtyTwo();
        blankBetweenTwoNumbers();
        eachKindOnce();
        hoursMustBeTold();
        withoutTheOthers();
        firstFromTheLeft();
        atItsFirstByte();
        atTheLengthIfItEndsTooEarly();
        noHoursBehindAll();
        bytesBehindTheText();
        longestText();
        Check.finish();
    }

    /** "{ CLAUSE ";" }": none is a text too, but one without hours. */
    private static void textsOfNoClause() {
        Nights.isFault(0, "", 3, 0);
        Nights.isFault(0, " ", 3, 1);
        Nights.isFault(0, ";", 1, 0);
    }

    /** "{ CLAUSE ";" }": behind the last one too, and one alone. */
    private static void clausesEndWithSemicolons() {
        Nights.isTold(0, "hours 1-2;", "1 2 0 0 -1 0");
        Nights.isFault(0, "hours 1-2", 1, 9);
        Nights.isFault(0, "hours 1-2;;", 1, 10);
        Nights.isFault(0, "hours 1-2 back 3;", 1, 10);
        Nights.isFault(0, "hours 1-2:back 3;", 1, 9);
        Nights.isFault(0, "hours 1-2;back 3", 1, 16);
        Nights.isTold(1, "after 0;back 3;hands 4;needs hole;hours 1-2;", "1 2 3 4 3 1");
    }

    /** ""hours" N "-" N (1 to 40; LEAST and MOST)". */
    private static void hoursFromOneToForty() {
        Nights.isTold(0, "hours 1-1;", "1 1 0 0 -1 0");
        Nights.isTold(0, "hours 1-40;", "1 40 0 0 -1 0");
        Nights.isTold(0, "hours 40-40;", "40 40 0 0 -1 0");
        Nights.isFault(0, "hours 0-1;", 2, 6);
        Nights.isFault(0, "hours 0-0;", 2, 6);
        Nights.isFault(0, "hours 41-41;", 2, 6);
        Nights.isFault(0, "hours 40-41;", 2, 9);
        Nights.isFault(0, "hours 1-0;", 2, 8);
    }

    /** "2 an N that is none such (the second one of hours below the first, too)". */
    private static void secondHoursBelowTheFirst() {
        Nights.isTold(0, "hours 7-7;", "7 7 0 0 -1 0");
        Nights.isTold(0, "hours 7-8;", "7 8 0 0 -1 0");
        Nights.isFault(0, "hours 7-6;", 2, 8);
        Nights.isFault(0, "hours 40-39;", 2, 9);
        Nights.isFault(0, "hours 40  -  1;", 2, 13);
    }

    /** ""needs" and "track", "crane" or "hole" (its THING)". */
    private static void needsOneOfThreeThings() {
        Nights.isTold(0, HOURS + "needs track;", "1 2 1 0 -1 0");
        Nights.isTold(0, HOURS + "needs crane;", "1 2 2 0 -1 0");
        Nights.isTold(0, HOURS + "needs hole;", "1 2 3 0 -1 0");
        Nights.isFault(0, "needs;" + HOURS, 1, 5);
        Nights.isFault(0, "needs none;" + HOURS, 1, 6);
        Nights.isFault(0, "needs hands;" + HOURS, 1, 6);
        Nights.isFault(0, "needs 1;" + HOURS, 1, 6);
        Nights.isFault(0, "needs track crane;" + HOURS, 1, 12);
    }

    /** ""hands" N (0 to 30)". */
    private static void handsFromZeroToThirty() {
        Nights.isTold(0, "hands 0;" + HOURS, "1 2 0 0 -1 0");
        Nights.isTold(0, "hands 30;" + HOURS, "1 2 0 30 -1 0");
        Nights.isFault(0, "hands 31;" + HOURS, 2, 6);
        Nights.isFault(0, "hands -1;" + HOURS, 1, 6);
        Nights.isFault(0, "hands;" + HOURS, 1, 5);
    }

    /** ""back" N (0 to 40)"; 0 is a way back, and none is another thing. */
    private static void backFromZeroToForty() {
        Nights.isTold(0, "back 0;" + HOURS, "1 2 0 0 0 0");
        Nights.isTold(0, "back 40;" + HOURS, "1 2 0 0 40 0");
        Nights.isFault(0, "back 41;" + HOURS, 2, 5);
        Nights.isFault(0, "back -1;" + HOURS, 1, 5);
        Nights.isFault(0, "back;" + HOURS, 1, 4);
    }

    /** ""after" N { N }": one at least, the same one twice, and as many as the text has room for. */
    private static void afterOneAtLeast() {
        Nights.isFault(2, "after;" + HOURS, 1, 5);
        Nights.isFault(2, "after ;" + HOURS, 1, 6);
        Nights.isTold(2, "after 1;" + HOURS, "1 2 0 0 -1 2");
        Nights.isTold(2, "after 1 1 0 1;" + HOURS, "1 2 0 0 -1 3");
        Nights.isTold(15, "after 0 1 2 3 4 5 6 7 8 9 10 11 12 13 14;" + HOURS, "1 2 0 0 -1 " + ALL_BITS);
        Nights.isTold(1, "after" + " 0".repeat(92) + ";" + HOURS, "1 2 0 0 -1 1");
    }

    /** "(earlier WORKS)": the latest one, but neither the new one itself nor one that is not there. */
    private static void afterEarlierWorks() {
        for (int earlier = 0; earlier < 16; earlier++) {
            Nights.isFault(earlier, HOURS + "after " + earlier + ";", 2, 16);
            Nights.isFault(earlier, HOURS + "after " + (earlier + 1) + ";", 2, 16);
            if (earlier > 0) {
                int latest = earlier - 1;
                Nights.isTold(earlier, HOURS + "after " + latest + ";", "1 2 0 0 -1 " + (1 << latest));
                Nights.isTold(earlier, HOURS + "after 0;", "1 2 0 0 -1 1");
            }
        }
        Nights.isFault(3, HOURS + "after 2 3;", 2, 18);
        Nights.isFault(3, HOURS + "after 3 2;", 2, 16);
    }

    /** "N: digits, as many as stand there". */
    private static void numbersAreAllTheirDigits() {
        Nights.isTold(0, "hours 001-0040;", "1 40 0 0 -1 0");
        Nights.isTold(0, "hours 1-" + "0".repeat(189) + "40;", "1 40 0 0 -1 0");
        Nights.isFault(0, "hours 1-400;", 2, 8);
        Nights.isFault(0, HOURS + "hands 300;", 2, 16);
        Nights.isFault(0, HOURS + "back 1" + "0".repeat(183) + ";", 2, 15);
        Nights.isTold(0, "hours 1-2;back 0000;hands 00000;", "1 2 0 0 0 0");
        Nights.isFault(0, HOURS + "hands 3a;", 1, 17);
    }

    /** "2 an N that is none such": one that would be one after a wrap-around is none either. */
    private static void numbersDoNotWrapAround() {
        String[] turns = {"256", "65536", "4294967296", "18446744073709551616",
            "340282366920938463463374607431768211456"};
        for (String turn : turns) {
            String next = new java.math.BigInteger(turn).add(java.math.BigInteger.TWO).toString();
            Nights.isFault(5, "hours " + next + "-40;", 2, 6);
            Nights.isFault(5, "hours 1-" + next + ";", 2, 8);
            Nights.isFault(5, HOURS + "hands " + turn + ";", 2, 16);
            Nights.isFault(5, HOURS + "back " + next + ";", 2, 15);
            Nights.isFault(5, HOURS + "after " + next + ";", 2, 16);
        }
        Nights.isFault(5, HOURS + "hands " + "9".repeat(180) + ";", 2, 16);
        Nights.isFault(5, HOURS + "back 2147483647;", 2, 15);
        Nights.isFault(5, HOURS + "back 2147483648;", 2, 15);
    }

    /** "WORDS: small letters, as many as stand there". */
    private static void wordsAreAllTheirLetters() {
        Nights.isTold(1, "hours1-2;back3;hands4;after0;needs hole;", "1 2 3 4 3 1");
        for (String word : new String[] {"hours", "needs", "hands", "back", "after"}) {
            Nights.isFault(1, word + "a;", 1, 0);
            Nights.isFault(1, word + "z;", 1, 0);
            Nights.isFault(1, "a" + word + ";", 1, 0);
            Nights.isFault(1, "z" + word.substring(1) + ";", 1, 0);
            Nights.isFault(1, word.substring(0, word.length() - 1) + "z;", 1, 0);
            Nights.isFault(1, word.substring(1) + ";", 1, 0);
            Nights.isFault(1, word.substring(0, word.length() - 1) + ";", 1, 0);
            Nights.isFault(1, word.toUpperCase() + ";", 1, 0);
        }
        for (String thing : new String[] {"track", "crane", "hole"}) {
            Nights.isFault(1, "needs" + thing + ";", 1, 0);
            Nights.isFault(1, "needs " + thing + "a;", 1, 6);
            Nights.isFault(1, "needs " + thing + "z;", 1, 6);
            Nights.isFault(1, "needs z" + thing.substring(1) + ";", 1, 6);
            Nights.isFault(1, "needs " + thing.substring(0, thing.length() - 1) + ";", 1, 6);
            Nights.isFault(1, "needs " + thing.substring(0, 1).toUpperCase() + thing.substring(1) + ";", 1, 6);
        }
        Nights.isFault(1, "back" + "k".repeat(196), 1, 0);
    }

    /** "blanks (32) may stand ahead of all these". */
    private static void blanksAheadOfAll() {
        Nights.isTold(2, " hours 1 - 2 ; needs hole ; hands 3 ; back 4 ; after 0 1 ;", "1 2 3 3 4 3");
        Nights.isTold(2, "   hours   1   -   2   ;   needs   hole   ;   hands   3   ;"
            + "   back   4   ;   after   0   1   ;", "1 2 3 3 4 3");
        Nights.isTold(2, "hours1-2;needs hole;hands3;back4;after0 1;", "1 2 3 3 4 3");
        Nights.isFault(2, "ho urs 1-2;", 1, 0);
        Nights.isFault(2, "needs ho le;", 1, 6);
        Nights.isFault(2, "hands 1 2;", 1, 8);
    }

    /** "and at the end". */
    private static void blanksAtTheEnd() {
        Nights.isTold(0, "hours 1-2; ", "1 2 0 0 -1 0");
        Nights.isTold(0, "hours 1-2;" + " ".repeat(190), "1 2 0 0 -1 0");
        Nights.isFault(0, "hours 1-2; x", 1, 11);
    }

    /** "blanks (32)": no other byte is one. */
    private static void blankIsThirtyTwo() {
        for (int sign = 0; sign < 256; sign++) {
            if (sign != 32) {
                Nights.isFault(0, (char) sign + HOURS, 1, 0);
                Nights.isFault(0, HOURS + (char) sign, 1, 10);
            }
        }
    }

    /** "one at least between two N". */
    private static void blankBetweenTwoNumbers() {
        Nights.isTold(13, HOURS + "after 1 2;", "1 2 0 0 -1 6");
        Nights.isTold(13, HOURS + "after 12;", "1 2 0 0 -1 4096");
        Nights.isTold(13, HOURS + "after 1  2;", "1 2 0 0 -1 6");
        Nights.isFault(13, HOURS + "after 1,2;", 1, 17);
        Nights.isFault(12, HOURS + "after 12;", 2, 16);
    }

    /** "Each kind of CLAUSE once at most"; "1 what can't stand there (a CLAUSE a second time, too". */
    private static void eachKindOnce() {
        String[] clauses = {"hours 1-2;", "needs hole;", "hands 3;", "back 4;", "after 0;"};
        for (String first : clauses) {
            for (String second : clauses) {
                if (first.equals(second)) {
                    Nights.isFault(1, first + second, 1, first.length());
                    Nights.isFault(1, first + "  " + second, 1, first.length() + 2);
                } else {
                    int all = first.length() + second.length();
                    Nights.isFault(1, first + second + first, 1, all);
                }
            }
        }
        Nights.isFault(1, "needs hole;needs track;", 1, 11);
        Nights.isFault(1, "hours 1-2;hours 0-0;", 1, 10);
        Nights.isFault(1, "back 0;back 0;", 1, 7);
        Nights.isFault(1, "hands 0;hands 0;", 1, 8);
        Nights.isFault(1, "after 0;after", 1, 8);
    }

    /** "hours must be told". */
    private static void hoursMustBeTold() {
        Nights.isFault(1, "needs hole;hands 3;back 4;after 0;", 3, 34);
        Nights.isTold(1, "needs hole;hands 3;back 4;after 0;hours 1-2;", "1 2 3 3 4 1");
    }

    /** "without the others: no THING, 0 HANDS, no way BACK, after none". */
    private static void withoutTheOthers() {
        Nights.isTold(1, "hours 3-4;", "3 4 0 0 -1 0");
        BridgeNight x = Nights.with("hours 1-2;", "needs hole;hands 3;back 4;after 0;hours 1-2;");
        Check.due("a plain one behind a rich one", () -> Check.tell(x, HOURS), 2);
        int[] due = {1, 2, 0, 0, -1, 0};
        for (int what = 0; what < 6; what++) {
            int asked = what;
            Check.due("told(2, " + what + ")", () -> x.told(2, asked), due[what]);
        }
    }

    /** "FAULTS, the first from the left". */
    private static void firstFromTheLeft() {
        Nights.isFault(0, "hands 31;boat;", 2, 6);
        Nights.isFault(0, "boat;hands 31;", 1, 0);
        Nights.isFault(0, "hours 9-8", 2, 8);
        Nights.isFault(0, "hours 0;", 2, 6);
        Nights.isFault(0, "hours 41-0;", 2, 6);
        Nights.isFault(1, "after 5 x;", 2, 6);
        Nights.isFault(1, "after 0 x 5;", 1, 8);
        Nights.isFault(0, "back 41", 2, 5);
        Nights.isFault(0, "hands 31", 2, 6);
        Nights.isFault(0, "hands x", 1, 6);
        Nights.isFault(0, "back x", 1, 5);
        Nights.isFault(0, "needs x", 1, 6);
        Nights.isFault(0, "after 0", 2, 6);
        Nights.isFault(0, "hours 0x1", 2, 6);
        Nights.isFault(0, "hours x", 1, 6);
        Nights.isFault(0, "hours 1x1", 1, 7);
    }

    /** "at its first byte". */
    private static void atItsFirstByte() {
        Nights.isFault(0, HOURS + "   boat;", 1, 13);
        Nights.isFault(0, HOURS + "back   00041;", 2, 17);
        Nights.isFault(0, HOURS + "needs   boat;", 1, 18);
        Nights.isFault(0, HOURS + "hands   x;", 1, 18);
        Nights.isFault(0, "hours 1   x", 1, 10);
        Nights.isFault(0, HOURS + "   hours 1-2;", 1, 13);
    }

    /** "(.. at the length, if the text ends too early)": behind each part of a clause. */
    private static void atTheLengthIfItEndsTooEarly() {
        String[] cut = {"hours", "hours 1", "hours 1-", "hours 1-2", "needs", "needs hole", "hands", "hands 3",
            "back", "back 4", "after", "after 0", "after 0 0"};
        for (String text : cut) {
            Nights.isFault(1, text, 1, text.length());
            Nights.isFault(1, text + "   ", 1, text.length() + 3);
            Nights.isFault(1, " ".repeat(200 - text.length()) + text, 1, 200);
            if (!text.startsWith("hours")) {
                Nights.isFault(1, HOURS + text, 1, 10 + text.length());
            }
        }
    }

    /** "behind all, at the length: 3 no hours". */
    private static void noHoursBehindAll() {
        Nights.isFault(0, "back 4;", 3, 7);
        Nights.isFault(0, "back 4;   ", 3, 10);
        Nights.isFault(0, "back 4;x", 1, 7);
        Nights.isFault(0, "back 41;", 2, 5);
        Nights.isFault(0, "back 4;" + " ".repeat(193), 3, 200);
    }

    /** The text is the first n bytes alone: what stands behind it on the TAPE is not looked at. */
    private static void bytesBehindTheText() {
        String tape = "hours 1-23;back 4;xx";
        int[][] due = {{0, -7, 0}, {3, -9, 0}, {5, -9, 5}, {6, -9, 6}, {7, -9, 7}, {8, -9, 8}, {9, -9, 9},
            {10, -9, 10}, {11, 0, -1}, {12, -9, 11}, {15, -9, 15}, {17, -9, 17}, {18, 0, -1}, {19, -9, 18}};
        for (int[] d : due) {
            BridgeNight x = new BridgeNight();
            Check.feedText(x, tape);
            Check.due("work(" + d[0] + ") of " + tape, () -> x.work(d[0]), d[1]);
            Check.due("fault() of " + d[0] + " bytes of " + tape, x::fault, d[2]);
        }
    }

    /** The whole TAPE of 200 bytes is read. */
    private static void longestText() {
        Nights.isTold(0, " ".repeat(190) + HOURS, "1 2 0 0 -1 0");
        Nights.isFault(0, " ".repeat(191) + "hours 1-2", 1, 200);
        Nights.isFault(0, " ".repeat(191) + "hours 5-4", 2, 199);
        Nights.isFault(0, " ".repeat(200), 3, 200);
        Nights.isFault(0, HOURS + " ".repeat(189) + "x", 1, 199);
        Nights.isFault(0, ";".repeat(200), 1, 0);
        Nights.isFault(0, "9".repeat(200), 1, 0);
    }
}
