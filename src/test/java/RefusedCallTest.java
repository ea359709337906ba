import java.util.function.Supplier;
import java.util.function.ToIntFunction;

/**
 * A refused call, one that throws or answers NONE, -1 or -2, changes nothing: all that a night tells
 * behind it, and all that comes of its tape and its noise, is what it would be without that call.
 */
public final class RefusedCallTest {
    private static final String IAE = "throws.IllegalArgumentException";
    private static final String ISE = "throws.IllegalStateException";
    private static final String IOOBE = "throws.IndexOutOfBoundsException";
    private static final String NONE = "-1";
    private static final String MINUS_TWO = "-2";
    private static final int[] FAR = {Integer.MIN_VALUE, -1, 1001, Integer.MAX_VALUE};

    private final String name;
    private final Supplier<BridgeNight> made;
    private final String due;

    private RefusedCallTest(String name, Supplier<BridgeNight> made) {
        this.name = name;
        this.made = made;
        this.due = story(made.get());
    }

    public static void main(String[] args) {
        RefusedCallTest some = new RefusedCallTest("some of all", RefusedCallTest::someOfAll);
        some.callsOnTheTape();
        some.callsOnWorks();
        some.callsOnRowsAndPlaces();
        some.callsOnTrains();
        some.callsThatTellNothing();
        new RefusedCallTest("a full tape", RefusedCallTest::fullTape).callsOnAFullTape();
        new RefusedCallTest("all works", RefusedCallTest::allWorks).callsOnAllWorks();
        new RefusedCallTest("all draws", RefusedCallTest::allDraws).callsOnAllDraws();
        new RefusedCallTest("no works", BridgeNight::new).callsOnNoWorks();
        Check.finish();
    }

    private void isRefused(String call, ToIntFunction<BridgeNight> refused, String answer) {
        BridgeNight x = made.get();
        Check.report(name + ": " + call, Check.answerOf(() -> refused.applyAsInt(x)), answer);
        Check.report(name + ": what " + call + " leaves", story(x), due);
    }

    /** Three works in an order of their own, one of which never begins, and a fault behind them. */
    private static BridgeNight someOfAll() {
        BridgeNight x = Nights.with("hours 2-9;back 3;needs hole;", "hours 1-4;back 0;hands 7;after 0;",
            "hours 3-3;hands 30;");
        x.set(0, 29);
        x.set(1, 7);
        x.move(2, 0);
        Nights.draw(x, 5, 6, 7);
        Nights.draw(x, -5, -6, -7);
        x.noise(11);
        x.noise(12);
        x.train(500);
        x.train(700);
        x.train(600);
        Check.due("a fault", () -> Check.tell(x, "hands x;"), -9);
        Check.feedText(x, "hours 3-4;hands 5;needs crane;");
        return x;
    }

    private static BridgeNight fullTape() {
        return withFullTape(15);
    }

    private static BridgeNight allWorks() {
        BridgeNight x = withFullTape(16);
        for (int t = 0; t < 30; t++) {
            x.train(300 + 7 * t % 30);
        }
        x.move(15, 0);
        return x;
    }

    /** So many works, a tape of 200 bytes, and 20 numbers of noise. */
    private static BridgeNight withFullTape(int works) {
        BridgeNight x = Nights.alike(works, "hours 1-40;");
        Check.feedText(x, "hours 5-6;back 7;" + " ".repeat(183));
        for (int i = 0; i < 20; i++) {
            x.noise(i);
        }
        return x;
    }

    private static BridgeNight allDraws() {
        BridgeNight x = Nights.with("hours 1-40;back 3;");
        for (int d = 0; d < 20; d++) {
            Nights.draw(x, d);
        }
        x.noise(9);
        return x;
    }

    private void callsOnTheTape() {
        for (int n : new int[] {Integer.MIN_VALUE, -1, 41, 201, Integer.MAX_VALUE}) {
            isRefused("work(" + n + ")", x -> x.work(n), IAE);
        }
    }

    private void callsOnWorks() {
        for (int bad : new int[] {Integer.MIN_VALUE, -1, 3, 16, Integer.MAX_VALUE}) {
            isRefused("told(" + bad + ", 0)", x -> x.told(bad, 0), IOOBE);
            isRefused("hours(0, " + bad + ")", x -> x.hours(0, bad), IOOBE);
            isRefused("begins(1, " + bad + ")", x -> x.begins(1, bad), IOOBE);
            isRefused("move(" + bad + ", 1)", x -> x.move(bad, 1), IOOBE);
        }
        for (int bad : new int[] {Integer.MIN_VALUE, -1, 6, Integer.MAX_VALUE}) {
            isRefused("told(0, " + bad + ")", x -> x.told(0, bad), IAE);
            isRefused("set(" + bad + ", 5)", x -> x.set(bad, 5), IAE);
        }
        for (int bad : FAR) {
            isRefused("set(0, " + bad + ")", x -> x.set(0, bad), IAE);
            isRefused("set(1, " + bad + ")", x -> x.set(1, bad), IAE);
            isRefused("off(" + bad + ")", x -> x.off(bad), IAE);
        }
        isRefused("set(0, 0)", x -> x.set(0, 0), IAE);
        isRefused("set(0, 61)", x -> x.set(0, 61), IAE);
        isRefused("best() without an end", BridgeNight::best, NONE);
        isRefused("draw() of too little noise", BridgeNight::draw, MINUS_TWO);
    }

    private void callsOnRowsAndPlaces() {
        for (int bad : new int[] {Integer.MIN_VALUE, -1, 4, 22, Integer.MAX_VALUE}) {
            isRefused("hours(" + bad + ", 0)", x -> x.hours(bad, 0), IAE);
            isRefused("end(" + bad + ")", x -> x.end(bad), IAE);
            isRefused("begins(" + bad + ", 0)", x -> x.begins(bad, 0), IAE);
            isRefused("move(0, " + bad + ")", x -> x.move(0, bad), IAE);
        }
    }

    private void callsOnTrains() {
        for (int bad : FAR) {
            isRefused("train(" + bad + ")", x -> x.train(bad), IAE);
        }
        for (int told : new int[] {500, 600, 700}) {
            isRefused("train(" + told + ")", x -> x.train(told), MINUS_TWO);
        }
    }

    private void callsThatTellNothing() {
        for (int bad : FAR) {
            isRefused("order(" + bad + ")", x -> x.order(bad), NONE);
            isRefused("out(" + bad + ")", x -> x.out(bad), NONE);
            isRefused("count(" + bad + ")", x -> x.count(bad), NONE);
        }
        isRefused("end(0)", x -> x.end(0), NONE);
        isRefused("begins(0, 2)", x -> x.begins(0, 2), NONE);
        isRefused("on()", BridgeNight::on, NONE);
    }

    private void callsOnAFullTape() {
        isRefused("feed beyond 200", x -> x.feed(0, 0, 0, 0, 0), NONE);
        isRefused("work(201)", x -> x.work(201), IAE);
        isRefused("a 21st number of noise", x -> x.noise(77), NONE);
        isRefused("best() of 15", BridgeNight::best, NONE);
    }

    private void callsOnAllWorks() {
        isRefused("a 17th work", x -> x.work(17), ISE);
        isRefused("a 17th work of no bytes", x -> x.work(0), ISE);
        isRefused("a 17th work of too many bytes", x -> x.work(201), IAE);
        isRefused("feed beyond 200", x -> x.feed(0, 0, 0, 0, 0), NONE);
        isRefused("a 21st number of noise", x -> x.noise(77), NONE);
        isRefused("a 31st train", x -> x.train(1), NONE);
        isRefused("a 31st train that was told", x -> x.train(300), NONE);
        isRefused("a 31st train of no number", x -> x.train(1001), IAE);
        isRefused("best() of 16", BridgeNight::best, NONE);
        isRefused("move(16, 0)", x -> x.move(16, 0), IOOBE);
        isRefused("move(0, 16)", x -> x.move(0, 16), IAE);
    }

    private void callsOnAllDraws() {
        isRefused("a 21st draw", BridgeNight::draw, NONE);
        isRefused("end(22)", x -> x.end(22), IAE);
    }

    private void callsOnNoWorks() {
        isRefused("work(1)", x -> x.work(1), IAE);
        isRefused("told(0, 0)", x -> x.told(0, 0), IOOBE);
        isRefused("move(0, 0)", x -> x.move(0, 0), IOOBE);
        isRefused("on()", BridgeNight::on, NONE);
        isRefused("off(5)", x -> x.off(5), NONE);
        isRefused("last()", BridgeNight::last, NONE);
        isRefused("out(0)", x -> x.out(0), NONE);
    }

    /** All that the night tells, and then what comes of its noise and its tape. */
    private static String story(BridgeNight x) {
        StringBuilder told = new StringBuilder();
        for (int what = 0; what < 5; what++) {
            told.append(" ").append(x.count(what));
        }
        told.append(" fault ").append(x.fault());
        worksOf(x, told);
        rowsOf(x, told);
        told.append(" trains ").append(x.ends());
        int trains = x.count(3);
        for (int k = 0; k < trains; k++) {
            told.append(" ").append(x.out(k));
        }
        told.append(" crew ").append(x.set(0, 60)).append(" limit ").append(x.set(1, 0));
        told.append(" then ").append(Check.answerOf(() -> nextDraw(x)));
        told.append(" ").append(Check.answerOf(() -> x.work(Math.min(x.count(4), 30))));
        worksOf(x, told);
        told.append(" ").append(x.train(999));
        return told.toString();
    }

    private static void worksOf(BridgeNight x, StringBuilder told) {
        told.append(" works");
        int works = x.count(0);
        for (int w = 0; w < works; w++) {
            told.append(" ").append(x.order(w)).append(",").append(x.told(w, 1));
        }
        for (int what = 0; what < 6 && works > 0; what++) {
            told.append(" ").append(x.told(0, what)).append(",").append(x.told(works - 1, what));
        }
    }

    private static void rowsOf(BridgeNight x, StringBuilder told) {
        told.append(" rows");
        int works = x.count(0);
        int rows = 2 + x.count(1);
        for (int row = 0; row < rows; row++) {
            told.append(" ").append(x.end(row));
            for (int w = 0; w < works; w++) {
                told.append(",").append(x.hours(row, w)).append("/").append(x.begins(row, w));
            }
        }
        told.append(" draws ").append(x.part()).append(" ").append(x.on()).append(" ").append(x.last());
        for (int hour : new int[] {0, 1, 6, 1000}) {
            told.append(" ").append(x.off(hour));
        }
    }

    /** A draw by the noise that is there, filled up as far as it goes, and its hours. */
    private static int nextDraw(BridgeNight x) {
        int works = x.count(0);
        for (int noise = x.count(2); noise < works; noise++) {
            x.noise(noise);
        }
        int row = x.draw();
        int hours = row;
        for (int w = 0; row >= 0 && w < works; w++) {
            hours = 41 * hours + x.hours(row, w);
        }
        return hours;
    }
}
