/** What all tests of the project use: calls with the answers that are due, and texts on the tape. */
final class Check {
    interface Call {
        int answer();
    }

    private static final int LONGEST_TEXT = 200;

    private static int calls = 0;
    private static int wrong = 0;

    private Check() {
    }

    static void due(String what, Call call, int due) {
        report(what, answerOf(call), Integer.toString(due));
    }

    static void isThrown(String what, Call call, Class<? extends RuntimeException> kind) {
        report(what, answerOf(call), "throws." + kind.getSimpleName());
    }

    static void report(String what, String got, String due) {
        calls++;
        if (!got.equals(due)) {
            wrong++;
            System.out.println(what + " answered " + got + ", due is " + due);
        }
    }

    static String answerOf(Call call) {
        try {
            return Integer.toString(call.answer());
        } catch (RuntimeException e) {
            return "throws." + e.getClass().getSimpleName();
        }
    }

    /** Feeds a text, filled up with zeros to a whole number of feeds. */
    static void feedText(BridgeNight x, String text) {
        if (text.length() > LONGEST_TEXT) {
            throw new IllegalArgumentException("the tape has 200 bytes");
        }
        for (int from = 0; from < text.length(); from += 20) {
            x.feed(four(text, from), four(text, from + 4), four(text, from + 8),
                four(text, from + 12), four(text, from + 16));
        }
    }

    static int tell(BridgeNight x, String text) {
        feedText(x, text);
        return x.work(text.length());
    }

    private static int four(String text, int from) {
        int number = 0;
        for (int i = from; i < from + 4; i++) {
            number = number << 8 | (i < text.length() ? text.charAt(i) & 255 : 0);
        }
        return number;
    }

    /** Prints the count, and ends the machine with 1 if an answer was wrong. */
    static void finish() {
        System.out.println(calls + " answers, " + wrong + " of them wrong");
        if (wrong != 0 || calls == 0) {
            System.exit(1);
        }
    }
}
