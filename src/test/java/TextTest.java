/** Promises 3, 4 and 5: texts of works, what they tell, and their faults with the places. */
public final class TextTest {
    private static final String HOURS = "hours 1-2;";

    public static void main(String[] args) {
        rightTexts();
        whatCannotStand();
        clausesTwice();
        textsThatEndTooEarly();
        numbersThatAreNoneSuch();
        noHours();
        firstFromTheLeft();
        bytesThatAreNoLetters();
        Check.finish();
    }

    private static void rightTexts() {
        right(HOURS, 1, 2, 0, 0, -1, 0);
        right("hours 40-40;", 40, 40, 0, 0, -1, 0);
        right("hours 1-40;back 40;hands 30;", 1, 40, 0, 30, 40, 0);
        right("hours 1-1;back 0;hands 0;", 1, 1, 0, 0, 0, 0);
        right("hours3-5;hands7;back2;after0 1;needs track;", 3, 5, 1, 7, 2, 3);
        right("needs crane;hours 3-5;", 3, 5, 2, 0, -1, 0);
        right("after 2;needs hole;hours 3-5;", 3, 5, 3, 0, -1, 4);
        right("after 2 0 2 02;hours 3-5;", 3, 5, 0, 0, -1, 5);
        right("   hours   3   -   5   ;   after   0   1   ;   ", 3, 5, 0, 0, -1, 3);
        right("hours 0003-0000000000000000000000000000005;", 3, 5, 0, 0, -1, 0);
        right("hours 3-5;hands 0000000000000000030;back 000040;after 00002;", 3, 5, 0, 30, 40, 4);
        right("after 0;back 1;hands 2;needs hole;hours 3-4;", 3, 4, 3, 2, 1, 1);
    }

    private static void whatCannotStand() {
        wrong(";", 1, 0);
        wrong("  ;", 1, 2);
        wrong(HOURS + ";", 1, 10);
        wrong("hour 1-2;", 1, 0);
        wrong("hoursx 1-2;", 1, 0);
        wrong("  hourz 1-2;", 1, 2);
        wrong("Hours 1-2;", 1, 0);
        wrong("hoUrs 1-2;", 1, 0);
        wrong("track 1-2;", 1, 0);
        wrong("bac 3;" + HOURS, 1, 0);
        wrong("backs 3;" + HOURS, 1, 0);
        wrong("7;", 1, 0);
        wrong("hours x-2;", 1, 6);
        wrong("hours -2;", 1, 6);
        wrong("hours 1 2;", 1, 8);
        wrong("hours 1--2;", 1, 8);
        wrong("hours 1-2-3;", 1, 9);
        wrong("hours 1-2 3;", 1, 10);
        wrong("hours 1-2x;", 1, 9);
        wrong("hours 1-;", 1, 8);
        wrong("hours;", 1, 5);
        wrong("needs;", 1, 5);
        wrong("needs boat;", 1, 6);
        wrong("needs   tracks;", 1, 8);
        wrong("needs trac;", 1, 6);
        wrong("needs trackz;", 1, 6);
        wrong("needs atrack;", 1, 6);
        wrong("hoursz 1-2;", 1, 0);
        wrong("needstrack;", 1, 0);
        wrong("needs hours;", 1, 6);
        wrong("needs 1;", 1, 6);
        wrong("needs track crane;", 1, 12);
        wrong("needs track 1;", 1, 12);
        wrong("hands x;", 1, 6);
        wrong("hands 1 2;", 1, 8);
        wrong("hands 1-2;", 1, 7);
        wrong("back -1;", 1, 5);
        wrong("back 1,", 1, 6);
        wrong("after;", 1, 5);
        wrong("after  ;", 1, 7);
        wrong("after 0,1;", 1, 7);
        wrong("after 0 1 x;", 1, 10);
        wrong("after 0-1;", 1, 7);
    }

    private static void clausesTwice() {
        wrong(HOURS + HOURS, 1, 10);
        wrong(HOURS + "  " + HOURS, 1, 12);
        wrong(HOURS + "hours 99-1;", 1, 10);
        wrong("needs track;needs crane;", 1, 12);
        wrong("needs track;needs track;", 1, 12);
        wrong("hands 0;hands 0;", 1, 8);
        wrong("back 1;back 1;", 1, 7);
        wrong("after 0;after 1;", 1, 8);
    }

    private static void textsThatEndTooEarly() {
        wrong("hours", 1, 5);
        wrong("hours   ", 1, 8);
        wrong("hours 1", 1, 7);
        wrong("hours 1-", 1, 8);
        wrong("hours 1-2", 1, 9);
        wrong("hours 1-2  ", 1, 11);
        wrong("needs", 1, 5);
        wrong("needs ", 1, 6);
        wrong("needs hole", 1, 10);
        wrong("hands", 1, 5);
        wrong("hands 3", 1, 7);
        wrong("back", 1, 4);
        wrong("back 3 ", 1, 7);
        wrong("after", 1, 5);
        wrong("after 0", 1, 7);
        wrong("after 0 1  ", 1, 11);
        wrong("hou", 1, 0);
    }

    private static void numbersThatAreNoneSuch() {
        wrong("hours 0-4;", 2, 6);
        wrong("hours 41-41;", 2, 6);
        wrong("hours 1-41;", 2, 8);
        wrong("hours 1-0;", 2, 8);
        wrong("hours 5 -   4;", 2, 12);
        wrong("hours 40-39;", 2, 9);
        wrong("hours 4294967297-2;", 2, 6);
        wrong("hours 1-4294967298;", 2, 8);
        wrong("hours 1-18446744073709551617;", 2, 8);
        wrong("hours 1-99999999999999999999999999999999999999;", 2, 8);
        wrong("hands 31;", 2, 6);
        wrong("hands 4294967296;", 2, 6);
        wrong("back 41;", 2, 5);
        wrong("back 100;", 2, 5);
        wrong("after 3;", 2, 6);
        wrong("after 0 1 2 3;", 2, 12);
        wrong("after 16;", 2, 6);
        wrong("after 32;", 2, 6);
        wrong("after 4294967296;", 2, 6);
    }

    private static void noHours() {
        wrong("", 3, 0);
        wrong("   ", 3, 3);
        wrong("back 3;", 3, 7);
        wrong("back 3;  ", 3, 9);
        wrong("needs track;hands 3;back 3;after 0;", 3, 35);
    }

    private static void firstFromTheLeft() {
        wrong("hours 0x4;", 2, 6);
        wrong("hours 9-8x", 2, 8);
        wrong("hands 31", 2, 6);
        wrong("after 9 x;", 2, 6);
        wrong("hands 31;boat;", 2, 6);
        wrong("boat;hands 31;", 1, 0);
        wrong("back 3;x", 1, 7);
    }

    private static void bytesThatAreNoLetters() {
        wrong("\t" + HOURS, 1, 0);
        wrong(HOURS + "\n", 1, 10);
        wrong(HOURS + "\0", 1, 10);
        wrong("hours 1-2" + (char) 160 + ";", 1, 9);
        wrong((char) 232 + "ours 1-2;", 1, 0);
        wrong("hours 1-2" + (char) 187, 1, 9);
        wrong("{" + HOURS, 1, 0);
        wrong("`" + HOURS, 1, 0);
        wrong("hours :-2;", 1, 6);
        wrong("hours /-2;", 1, 6);
    }

    private static BridgeNight withThreeWorks() {
        BridgeNight x = new BridgeNight();
        for (int w = 0; w < 3; w++) {
            Check.due("work " + w, () -> Check.tell(x, HOURS), w);
        }
        return x;
    }

    private static void right(String text, int... due) {
        BridgeNight x = withThreeWorks();
        Check.due(text, () -> Check.tell(x, text), 3);
        Check.due(text + " fault()", x::fault, -1);
        for (int what = 0; what < due.length; what++) {
            int asked = what;
            Check.due(text + " told(3, " + what + ")", () -> x.told(3, asked), due[what]);
        }
    }

    /** A text with a fault leaves all as it was, but for the tape and the fault's place. */
    private static void wrong(String text, int kind, int place) {
        BridgeNight x = withThreeWorks();
        for (int w = 0; w < 3; w++) {
            x.noise(1);
        }
        x.draw();
        x.noise(1);
        Check.due(text, () -> Check.tell(x, text), kind - 10);
        Check.due(text + " fault()", x::fault, place);
        Check.due(text + " works", () -> x.count(0), 3);
        Check.due(text + " draws", () -> x.count(1), 1);
        Check.due(text + " noise", () -> x.count(2), 1);
        Check.due(text + " tape", () -> x.count(4), 0);
        Check.due(text + " order", () -> x.order(3), -1);
        Check.due(text + " a work behind it", () -> Check.tell(x, HOURS), 3);
        Check.due(text + " a work behind it: fault()", x::fault, -1);
        int[] plain = {1, 2, 0, 0, -1, 0};
        for (int what = 0; what < plain.length; what++) {
            int asked = what;
            Check.due(text + " a work behind it: told(3, " + what + ")", () -> x.told(3, asked), plain[what]);
        }
    }
}
