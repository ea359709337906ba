/** Objects with works and draws for the tests, and what can be asked of many works at once. */
final class Nights {
    private Nights() {
    }

    static BridgeNight with(String... texts) {
        BridgeNight x = new BridgeNight();
        for (int w = 0; w < texts.length; w++) {
            int number = w;
            Check.due("work " + texts[w], () -> Check.tell(x, texts[number]), w);
        }
        return x;
    }

    /** So many works of an hour each, none in another's way. */
    static BridgeNight plain(int works) {
        return alike(works, "hours 1-1;");
    }

    static BridgeNight alike(int works, String text) {
        String[] texts = new String[works];
        java.util.Arrays.fill(texts, text);
        return with(texts);
    }

    /** A draw by these numbers of noise. */
    static void draw(BridgeNight x, int... numbers) {
        for (int v : numbers) {
            x.noise(v);
        }
        int row = 2 + x.count(1);
        Check.due("draw()", x::draw, row);
    }

    /** So many trains, whose numbers go from the first one on by steps. */
    static BridgeNight trains(int many, int first, int step) {
        BridgeNight x = new BridgeNight();
        for (int t = 0; t < many; t++) {
            x.train(first + t * step);
        }
        Check.due("trains", () -> x.count(3), many);
        return x;
    }

    static void orderIs(String what, BridgeNight x, int... due) {
        for (int k = 0; k < due.length; k++) {
            int place = k;
            Check.due(what + ": order(" + k + ")", () -> x.order(place), due[k]);
        }
    }

    static void startsAre(String what, BridgeNight x, int row, int... due) {
        for (int w = 0; w < due.length; w++) {
            int work = w;
            Check.due(what + ": begins(" + row + ", " + w + ")", () -> x.begins(row, work), due[w]);
        }
    }

    /** A text behind so many works is right: all six that told() tells of it. */
    static void isTold(int earlier, String text, String due) {
        Check.report("behind " + earlier + " works: " + text, reading(earlier, text), due);
    }

    /** A text behind so many works has a fault of this kind at this place. */
    static void isFault(int earlier, String text, int kind, int place) {
        Check.report("behind " + earlier + " works: " + text, reading(earlier, text), "fault " + kind + " at " + place);
    }

    private static String reading(int earlier, String text) {
        BridgeNight x = plain(earlier);
        String answer = Check.answerOf(() -> Check.tell(x, text));
        String place = Check.answerOf(x::fault);
        if (!answer.equals(Integer.toString(earlier)) || !place.equals("-1")) {
            return answer.matches("-[0-9]") ? "fault " + (10 + Integer.parseInt(answer)) + " at " + place
                : answer + " at " + place;
        }
        StringBuilder told = new StringBuilder();
        for (int what = 0; what < 6; what++) {
            int asked = what;
            told.append(what == 0 ? "" : " ").append(Check.answerOf(() -> x.told(earlier, asked)));
        }
        return told.toString();
    }
}
