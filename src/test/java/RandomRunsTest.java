import java.util.Random;

/** Runs of 512 drawn calls, each answer held against PlainNight; the seeds are fixed. */
public final class RandomRunsTest {
    private static final int RUNS = 400;
    private static final int CALLS = 512;
    private static final String[] PIECES = {"hours", "needs", "hands", "back", "after", "track", "crane",
        "hole", " ", ";", "-", "1", "2", "40", "41", "0", "x", "  ", "hour", "\0"};
    private static final int[] EDGES = {Integer.MIN_VALUE, Integer.MAX_VALUE, -2, -1, 0, 1, 2, 5, 6, 7, 15,
        16, 19, 20, 21, 22, 29, 30, 31, 59, 60, 61, 99, 100, 101, 999, 1000, 1001};

    private final Random random;
    private final BridgeNight x = new BridgeNight();
    private final PlainNight y = new PlainNight();
    private final int run;
    private final int mostWorks;
    private final boolean isWild;
    private int calls = 0;

    private RandomRunsTest(int run) {
        this.run = run;
        random = new Random(run);
        mostWorks = run % 3 == 0 ? 16 : 1 + random.nextInt(7);
        isWild = run % 4 == 0;
    }

    public static void main(String[] args) {
        for (int run = 1; run <= RUNS; run++) {
            RandomRunsTest test = new RandomRunsTest(run);
            while (test.calls < CALLS) {
                test.step();
            }
        }
        Check.finish();
    }

    /** What the 513th call answers is free, so it is not made. */
    private void same(String what, Check.Call mine, Check.Call plain) {
        if (calls == CALLS) {
            return;
        }
        calls++;
        Check.report("run " + run + ", call " + calls + ": " + what, Check.answerOf(mine), Check.answerOf(plain));
    }

    private void step() {
        int kind = random.nextInt(26);
        if (kind < 3 && y.count(0) < mostWorks || kind == 0 && random.nextInt(10) == 0) {
            tellWork();
        } else if (kind < 6) {
            noiseAndDraw();
        } else if (kind < 15) {
            askOfWorks(kind);
        } else if (kind < 20) {
            askOfDraws(kind);
        } else {
            trainsAndCounts(kind);
        }
    }

    private int number(int below) {
        return random.nextInt(isWild ? 4 : 12) == 0 ? EDGES[random.nextInt(EDGES.length)] : random.nextInt(below);
    }

    private void tellWork() {
        String text = random.nextInt(4) == 0 ? mixedText() : goodText();
        if (random.nextInt(6) == 0 && !text.isEmpty()) {
            text = spoilt(text);
        }
        text = text.substring(0, Math.min(200, text.length()));
        for (int from = 0; from < text.length() || from == 0; from += 20) {
            int[] v = new int[5];
            for (int i = 0; i < 20; i++) {
                v[i / 4] = v[i / 4] << 8 | (from + i < text.length() ? text.charAt(from + i) : random.nextInt(256));
            }
            same("feed", () -> x.feed(v[0], v[1], v[2], v[3], v[4]), () -> y.feed(v));
        }
        int n = random.nextInt(20) == 0 ? number(210) : text.length();
        same("work " + text, () -> x.work(n), () -> y.work(n));
        same("fault " + text, x::fault, y::fault);
    }

    private String goodText() {
        StringBuilder text = new StringBuilder();
        int least = 1 + random.nextInt(random.nextBoolean() ? 6 : 40);
        int most = Math.min(40, least + random.nextInt(random.nextBoolean() ? 4 : 40));
        text.append("hours ").append(least).append("-").append(most).append(";");
        if (random.nextInt(3) > 0) {
            clause(text, "needs " + PIECES[5 + random.nextInt(3)]);
        }
        if (random.nextInt(4) > 0) {
            clause(text, "hands " + random.nextInt(random.nextBoolean() ? 31 : 12));
        }
        if (random.nextInt(8) > 0) {
            clause(text, "back " + random.nextInt(random.nextBoolean() ? 41 : 4));
        }
        int before = y.count(0);
        if (before > 0 && random.nextBoolean()) {
            String after = "after";
            for (int i = random.nextInt(3); i >= 0; i--) {
                after += " " + random.nextInt(before);
            }
            clause(text, after);
        }
        return text.toString();
    }

    private void clause(StringBuilder text, String clause) {
        text.insert(random.nextBoolean() ? 0 : text.length(), clause + (random.nextInt(5) == 0 ? " ; " : ";"));
    }

    private String mixedText() {
        StringBuilder text = new StringBuilder();
        for (int i = random.nextInt(12); i > 0; i--) {
            text.append(PIECES[random.nextInt(PIECES.length)]);
        }
        return text.toString();
    }

    private String spoilt(String text) {
        int at = random.nextInt(text.length());
        String sign = random.nextBoolean() ? PIECES[random.nextInt(PIECES.length)] : "" + (char) random.nextInt(256);
        return text.substring(0, at) + sign + text.substring(at + random.nextInt(2));
    }

    private void noiseAndDraw() {
        int many = random.nextInt(4) == 0 ? random.nextInt(22) : y.count(0);
        for (int i = 0; i < many; i++) {
            int v = random.nextBoolean() ? random.nextInt() : random.nextInt(100);
            same("noise " + v, () -> x.noise(v), () -> y.noise(v));
        }
        same("draw", x::draw, y::draw);
    }

    private void askOfWorks(int kind) {
        int work = number(y.count(0) + 1);
        int row = number(3 + y.count(1));
        switch (kind) {
            case 6 -> {
                int what = number(6);
                same("told " + work + " " + what, () -> x.told(work, what), () -> y.told(work, what));
            }
            case 7 -> {
                int what = number(2);
                int v = what == 0 ? (random.nextBoolean() ? 31 + number(30) : number(62)) : number(200);
                same("set " + what + " " + v, () -> x.set(what, v), () -> y.set(what, v));
            }
            case 8 -> same("hours " + row + " " + work, () -> x.hours(row, work), () -> y.hours(row, work));
            case 9 -> same("end " + row, () -> x.end(row), () -> y.end(row));
            case 10, 11 -> same("begins " + row + " " + work, () -> x.begins(row, work), () -> y.begins(row, work));
            case 12 -> {
                if (y.count(0) < 7 || random.nextInt(40) == 0) {
                    same("best", x::best, y::best);
                }
            }
            case 13 -> {
                int k = number(y.count(0) + 1);
                same("move " + work + " " + k, () -> x.move(work, k), () -> y.move(work, k));
            }
            default -> {
                int k = number(y.count(0) + 1);
                same("order " + k, () -> x.order(k), () -> y.order(k));
            }
        }
    }

    private void askOfDraws(int kind) {
        switch (kind) {
            case 15 -> same("part", x::part, y::part);
            case 16 -> same("on", x::on, y::on);
            case 17, 18 -> {
                int hour = number(random.nextBoolean() ? 60 : 1002);
                same("off " + hour, () -> x.off(hour), () -> y.off(hour));
            }
            default -> same("last", x::last, y::last);
        }
    }

    private void trainsAndCounts(int kind) {
        switch (kind) {
            case 20, 21, 22 -> {
                int number = number(random.nextBoolean() ? 40 : 1001);
                same("train " + number, () -> x.train(number), () -> y.train(number));
                same("ends", x::ends, y::ends);
            }
            case 23 -> {
                if (random.nextInt(12) == 0) {
                    same("leave", x::leave, y::leave);
                }
            }
            case 24 -> {
                int k = number(31);
                same("out " + k, () -> x.out(k), () -> y.out(k));
            }
            default -> {
                int what = number(6);
                same("count " + what, () -> x.count(what), () -> y.count(what));
            }
        }
    }
}
