import java.util.ArrayList;
import java.util.Collections;
import java.util.List;

/**
 * The document once more, as plain as can be and by other ways than the class: tokens first, hours
 * one by one, all orders, all hours. RandomRunsTest holds the class against it.
 */
final class PlainNight {
    private record Token(String sign, int place) {
    }

    private record Task(int least, int most, String thing, int hands, int back, List<Integer> after) {
    }

    private static final List<String> THINGS = List.of("", "track", "crane", "hole");

    private final List<Integer> tape = new ArrayList<>();
    private final List<Task> tasks = new ArrayList<>();
    private final List<Integer> places = new ArrayList<>();
    private final List<Integer> numbers = new ArrayList<>();
    private final List<int[]> drawn = new ArrayList<>();
    private final List<Integer> cars = new ArrayList<>();
    private final List<List<Integer>> sidings = new ArrayList<>();
    private int crew = 30;
    private int limit = 100;
    private int faultPlace = -1;

    private List<Token> tokens;
    private int next;
    private int textLength;
    private int faultKind;

    int feed(int... five) {
        if (tape.size() + 20 > 200) {
            return -1;
        }
        for (int v : five) {
            for (int i = 3; i >= 0; i--) {
                tape.add(v >> 8 * i & 0xff);
            }
        }
        return tape.size();
    }

    int work(int n) {
        if (n < 0 || n > tape.size()) {
            throw new IllegalArgumentException();
        }
        if (tasks.size() == 16) {
            throw new IllegalStateException();
        }
        StringBuilder text = new StringBuilder();
        for (int i = 0; i < n; i++) {
            text.append((char) (int) tape.get(i));
        }
        tape.clear();
        faultPlace = -1;
        faultKind = 0;
        Task task = parse(text.toString());
        if (task == null) {
            return faultKind - 10;
        }
        tasks.add(task);
        places.add(tasks.size() - 1);
        drawn.clear();
        return tasks.size() - 1;
    }

    private static List<Token> split(String text) {
        List<Token> all = new ArrayList<>();
        int at = 0;
        while (at < text.length()) {
            int from = at;
            String rest = text.substring(at);
            int letters = rest.length() - rest.replaceFirst("^[a-z]+", "").length();
            int digits = rest.length() - rest.replaceFirst("^[0-9]+", "").length();
            at += Math.max(1, Math.max(letters, digits));
            if (text.charAt(from) != ' ') {
                all.add(new Token(text.substring(from, at), from));
            }
        }
        return all;
    }

    private Task parse(String text) {
        tokens = split(text);
        next = 0;
        textLength = text.length();
        int[] hours = null;
        String thing = null;
        Integer hands = null;
        Integer back = null;
        List<Integer> after = null;
        while (next < tokens.size()) {
            String word = sign();
            if (word.equals("hours") && hours == null) {
                next++;
                Integer least = number(1, 40);
                if (least == null || !take("-")) {
                    return null;
                }
                Integer most = number(least, 40);
                if (most == null) {
                    return null;
                }
                hours = new int[] {least, most};
            } else if (word.equals("needs") && thing == null) {
                next++;
                thing = sign();
                if (thing.isEmpty() || !THINGS.contains(thing)) {
                    return refuse(1);
                }
                next++;
            } else if (word.equals("hands") && hands == null) {
                next++;
                hands = number(0, 30);
                if (hands == null) {
                    return null;
                }
            } else if (word.equals("back") && back == null) {
                next++;
                back = number(0, 40);
                if (back == null) {
                    return null;
                }
            } else if (word.equals("after") && after == null) {
                next++;
                after = new ArrayList<>();
                do {
                    Integer one = number(0, tasks.size() - 1);
                    if (one == null) {
                        return null;
                    }
                    after.add(one);
                } while (sign().matches("[0-9]+"));
            } else {
                return refuse(1);
            }
            if (!take(";")) {
                return null;
            }
        }
        if (hours == null) {
            return refuse(3);
        }
        return new Task(hours[0], hours[1], thing == null ? "" : thing, hands == null ? 0 : hands,
            back == null ? -1 : back, after == null ? List.of() : after);
    }

    private String sign() {
        return next < tokens.size() ? tokens.get(next).sign() : "";
    }

    private boolean take(String sign) {
        if (!sign().equals(sign)) {
            refuse(1);
            return false;
        }
        next++;
        return true;
    }

    private Integer number(int from, int to) {
        if (!sign().matches("[0-9]+")) {
            refuse(1);
            return null;
        }
        java.math.BigInteger v = new java.math.BigInteger(sign());
        if (v.bitLength() > 20 || v.intValue() < from || v.intValue() > to) {
            refuse(2);
            return null;
        }
        next++;
        return v.intValue();
    }

    private Task refuse(int kind) {
        faultKind = kind;
        faultPlace = next < tokens.size() ? tokens.get(next).place() : textLength;
        return null;
    }

    int fault() {
        return faultPlace;
    }

    int told(int work, int what) {
        needWork(work);
        Task t = tasks.get(work);
        int bits = 0;
        for (int w : t.after()) {
            bits |= 1 << w;
        }
        int[] all = {t.least(), t.most(), THINGS.indexOf(t.thing()), t.hands(), t.back(), bits};
        need(what >= 0 && what < all.length);
        return all[what];
    }

    int set(int what, int v) {
        need(what == 0 && v >= 1 && v <= 60 || what == 1 && v >= 0 && v <= 1000);
        int was = what == 0 ? crew : limit;
        if (what == 0) {
            crew = v;
        } else {
            limit = v;
        }
        return was;
    }

    int noise(int v) {
        if (numbers.size() == 20) {
            return -1;
        }
        numbers.add(v);
        return numbers.size();
    }

    int draw() {
        if (drawn.size() == 20) {
            return -1;
        }
        if (numbers.size() < tasks.size()) {
            return -2;
        }
        int[] hours = new int[tasks.size()];
        for (int w = 0; w < hours.length; w++) {
            Task t = tasks.get(w);
            hours[w] = t.least() + Integer.remainderUnsigned(numbers.get(w), t.most() - t.least() + 1);
        }
        numbers.clear();
        drawn.add(hours);
        return drawn.size() + 1;
    }

    private int[] row(int row) {
        need(row >= 0 && row < 2 + drawn.size());
        if (row >= 2) {
            return drawn.get(row - 2);
        }
        int[] hours = new int[tasks.size()];
        for (int w = 0; w < hours.length; w++) {
            hours[w] = row == 0 ? tasks.get(w).least() : tasks.get(w).most();
        }
        return hours;
    }

    int hours(int row, int work) {
        needWork(work);
        return row(row)[work];
    }

    /** Hour by hour up to more than all works take together: where each begins, -1 if it does not. */
    private int[] starts(int[] hours, List<Integer> order) {
        int[] start = new int[hours.length];
        java.util.Arrays.fill(start, -1);
        int sum = 0;
        for (int h : hours) {
            sum += h;
        }
        for (int hour = 0; hour <= sum; hour++) {
            for (int w : order) {
                if (start[w] == -1 && mayStart(w, hour, hours, start)) {
                    start[w] = hour;
                }
            }
        }
        return start;
    }

    private boolean mayStart(int w, int hour, int[] hours, int[] start) {
        Task mine = tasks.get(w);
        int free = crew;
        for (int v = 0; v < hours.length; v++) {
            boolean over = start[v] != -1 && start[v] + hours[v] <= hour;
            if (mine.after().contains(v) && !over) {
                return false;
            }
            if (start[v] != -1 && !over) {
                free -= tasks.get(v).hands();
                if (!mine.thing().isEmpty() && mine.thing().equals(tasks.get(v).thing())) {
                    return false;
                }
            }
        }
        return mine.hands() <= free;
    }

    private int endOf(int[] hours, List<Integer> order) {
        int[] start = starts(hours, order);
        int end = 0;
        for (int w = 0; w < start.length; w++) {
            if (start[w] == -1) {
                return -1;
            }
            end = Math.max(end, start[w] + hours[w]);
        }
        return end;
    }

    int end(int row) {
        return endOf(row(row), places);
    }

    int begins(int row, int work) {
        needWork(work);
        return starts(row(row), places)[work];
    }

    int best() {
        if (tasks.size() > 7) {
            return -1;
        }
        List<Integer> first = new ArrayList<>(places);
        Collections.sort(first);
        long[] least = {Long.MAX_VALUE};
        List<Integer> found = new ArrayList<>();
        tryAll(new ArrayList<>(), first, least, found);
        if (least[0] == Long.MAX_VALUE) {
            return -1;
        }
        places.clear();
        places.addAll(found);
        return (int) (least[0] / 10000);
    }

    private void tryAll(List<Integer> head, List<Integer> rest, long[] least, List<Integer> found) {
        if (rest.isEmpty()) {
            long byMost = endOf(row(1), head);
            if (byMost >= 0 && byMost <= least[0] / 10000) {
                long both = byMost * 10000 + endOf(row(0), head);
                if (both < least[0]) {
                    least[0] = both;
                    found.clear();
                    found.addAll(head);
                }
            }
            return;
        }
        for (int i = 0; i < rest.size(); i++) {
            List<Integer> longer = new ArrayList<>(head);
            longer.add(rest.get(i));
            List<Integer> left = new ArrayList<>(rest);
            left.remove(i);
            tryAll(longer, left, least, found);
        }
    }

    int order(int k) {
        return k >= 0 && k < places.size() ? places.get(k) : -1;
    }

    int move(int work, int k) {
        needWork(work);
        need(k >= 0 && k < places.size());
        int was = places.indexOf(work);
        places.remove(was);
        places.add(k, work);
        return was;
    }

    int part() {
        int within = 0;
        for (int[] hours : drawn) {
            int end = endOf(hours, places);
            within += end >= 0 && end <= limit ? 1 : 0;
        }
        return within;
    }

    int on() {
        int sum = 0;
        for (int[] hours : drawn) {
            int end = endOf(hours, places);
            if (end == -1) {
                return -1;
            }
            sum += end > limit ? end - limit : 0;
        }
        return drawn.isEmpty() ? -1 : sum;
    }

    int off(int hour) {
        need(hour >= 0 && hour <= 1000);
        return offAt(hour, allStarts());
    }

    private List<int[]> allStarts() {
        List<int[]> all = new ArrayList<>();
        for (int[] hours : drawn) {
            all.add(starts(hours, places));
        }
        return all;
    }

    private int offAt(int hour, List<int[]> all) {
        int sum = 0;
        for (int[] start : all) {
            int back = hour;
            for (int w = 0; w < start.length; w++) {
                if (start[w] >= 0 && start[w] < hour) {
                    if (tasks.get(w).back() == -1) {
                        return -1;
                    }
                    back += tasks.get(w).back();
                }
            }
            sum += back > limit ? back - limit : 0;
        }
        return all.isEmpty() ? -1 : sum;
    }

    int last() {
        int on = on();
        List<int[]> all = allStarts();
        for (int hour = 1000; hour >= 0; hour--) {
            int off = offAt(hour, all);
            if (off != -1 && (on == -1 || off <= on)) {
                return hour;
            }
        }
        return -1;
    }

    int train(int number) {
        need(number >= 0 && number <= 1000);
        if (cars.size() == 30) {
            return -1;
        }
        if (cars.contains(number)) {
            return -2;
        }
        cars.add(number);
        List<Integer> chosen = null;
        for (List<Integer> siding : sidings) {
            if (foremost(siding) > number && (chosen == null || foremost(siding) < foremost(chosen))) {
                chosen = siding;
            }
        }
        if (chosen == null) {
            chosen = new ArrayList<>();
            sidings.add(chosen);
        }
        chosen.add(number);
        return sidings.indexOf(chosen);
    }

    private static int foremost(List<Integer> siding) {
        return siding.get(siding.size() - 1);
    }

    int ends() {
        return sidings.size();
    }

    int leave() {
        int left = cars.size();
        cars.clear();
        sidings.clear();
        return left;
    }

    /** The trains really come out here, one by one: the foremost of some dead end is the next. */
    int out(int k) {
        if (k < 0 || k >= cars.size()) {
            return -1;
        }
        List<Integer> sorted = new ArrayList<>(cars);
        Collections.sort(sorted);
        int[] left = new int[sidings.size()];
        for (int s = 0; s < left.length; s++) {
            left[s] = sidings.get(s).size();
        }
        int from = -1;
        for (int i = 0; i <= k; i++) {
            from = -1;
            for (int s = 0; s < left.length; s++) {
                if (left[s] > 0 && sidings.get(s).get(left[s] - 1).equals(sorted.get(i))) {
                    from = s;
                }
            }
            if (from == -1) {
                throw new AssertionError("a train stands behind one that is wanted later");
            }
            left[from]--;
        }
        return from;
    }

    int count(int what) {
        int[] all = {tasks.size(), drawn.size(), numbers.size(), cars.size(), tape.size()};
        return what >= 0 && what < all.length ? all[what] : -1;
    }

    private void needWork(int work) {
        if (work < 0 || work >= tasks.size()) {
            throw new IndexOutOfBoundsException();
        }
    }

    private static void need(boolean holds) {
        if (!holds) {
            throw new IllegalArgumentException();
        }
    }
}
