import java.math.BigInteger;
import java.util.ArrayList;
import java.util.HashMap;
import java.util.List;
import java.util.Map;
import java.util.Objects;
import java.util.regex.Matcher;
import java.util.regex.Pattern;

/**
 * The document again, word by word and without regard to speed: another program to hold the class
 * against. It shares no code with it.
 */
final class PlainModel {
    static final int BAD = -1, STATE = -2, FULL = -3, NONE = -4;

    record Telling(int shop, int day, int on, Integer v) { }

    record Teller(String name, int a, int b) { }

    static final class Note {
        int shop, k, on, day, told, width;
        boolean acted;
    }

    int now = 0;
    final List<Telling> tellings = new ArrayList<>();
    final Map<Integer, List<Telling>> ofDay = new HashMap<>();
    final boolean[][] marks = new boolean[2][64];
    final List<Integer> tape = new ArrayList<>();
    List<Teller> tellers = new ArrayList<>();
    int fault = 0;
    final List<Note> notes = new ArrayList<>();
    final Object[] sheets = new Object[4];
    int torn = 0;

    static final List<String> KINDS = List.of("same", "mean", "step", "like", "joined");

    // ---- terms

    void keep(Telling x) {
        tellings.add(x);
        ofDay.computeIfAbsent(x.shop * 64 + x.day, place -> new ArrayList<>()).add(x);
    }

    Integer knownOn(int shop, int day, int on) {
        Integer v = null;
        if (day < 64) {
            for (Telling x : ofDay.getOrDefault(shop * 64 + day, List.of())) {
                v = x.on <= on ? x.v : v;
            }
        }
        return v;
    }

    static int answer(Integer v) {
        return v == null ? NONE : v;
    }

    static boolean in(int v, int least, int most) {
        return v >= least && v <= most;
    }

    boolean isFeast(int day) {
        return day < 64 && marks[0][day];
    }

    Integer told(Teller teller, int k, int shop, int d, int h) {
        return switch (teller.name) {
            case "same" -> same(teller.a, shop, d, h);
            case "mean" -> mean(teller.a, shop, d);
            case "step" -> step(teller.a, teller.b, shop, d, h);
            case "like" -> like(teller.a, shop, d, h);
            default -> joined(teller.a, k, shop, d, h);
        };
    }

    Integer same(int n, int shop, int d, int h) {
        for (int times = 1; times <= 100; times++) {
            int day = d + h - times * n;
            if (day >= 0 && day <= d && knownOn(shop, day, d) != null) {
                return knownOn(shop, day, d);
            }
        }
        return null;
    }

    List<Integer> latest(int shop, int d) {
        List<Integer> all = new ArrayList<>();
        for (int day = d; day >= 0; day--) {
            Integer v = knownOn(shop, day, d);
            if (v != null) {
                all.add(v);
            }
        }
        return all;
    }

    static int meanOf(List<Integer> some) {
        return Math.floorDiv(some.stream().mapToInt(v -> v).sum(), some.size());
    }

    Integer mean(int n, int shop, int d) {
        List<Integer> all = latest(shop, d);
        return all.size() < n ? null : (Integer) meanOf(all.subList(0, n));
    }

    Integer step(int a, int b, int shop, int d, int h) {
        if (latest(shop, d).size() < 2) {
            return null;
        }
        int first = 0;
        while (knownOn(shop, first, d) == null) {
            first++;
        }
        long level = 100L * knownOn(shop, first, d);
        long slope = 0;
        for (int day = first + 1; day <= d; day++) {
            Integer v = knownOn(shop, day, d);
            if (v == null) {
                level += slope;
            } else {
                long old = level;
                level = Math.floorDiv(a * 100L * v + (10 - a) * (old + slope), 10L);
                slope = Math.floorDiv(b * (level - old) + (10 - b) * slope, 10L);
            }
        }
        long told = Math.floorDiv(level + h * slope, 100L);
        return (int) (told < 0 ? 0 : told > 999 ? 999 : told);
    }

    Integer like(int n, int shop, int d, int h) {
        List<Integer> all = new ArrayList<>();
        for (int day = d; day >= 0 && all.size() < n; day--) {
            boolean alike = day % 7 == (d + h) % 7 && isFeast(day) == isFeast(d + h);
            Integer v = knownOn(shop, day, d);
            if (alike && v != null) {
                all.add(v);
            }
        }
        return all.isEmpty() ? null : (Integer) meanOf(all);
    }

    int weightIn(int n, int i, int shop, int d, int h) {
        List<Integer> all = new ArrayList<>();
        for (int day = d; day >= h && all.size() < n; day--) {
            Integer v = knownOn(shop, day, d);
            Integer told = v == null ? null : told(tellers.get(i), i, shop, day - h, h);
            if (told != null) {
                all.add(Math.abs(told - v));
            }
        }
        int miss = all.isEmpty() ? 1000 : meanOf(all);
        return 1000 / (1 + miss);
    }

    Integer joined(int n, int k, int shop, int d, int h) {
        int sum = 0;
        int weights = 0;
        for (int i = 0; i < k; i++) {
            if (!tellers.get(i).name.equals("joined")) {
                Integer told = told(tellers.get(i), i, shop, d, h);
                if (told != null) {
                    int w = weightIn(n, i, shop, d, h);
                    sum += w * told;
                    weights += w;
                }
            }
        }
        return weights == 0 ? null : (Integer) Math.floorDiv(sum, weights);
    }

    /** The figure of t less what was told of it. */
    Integer difference(Teller teller, int k, int shop, int h, int t) {
        Integer v = knownOn(shop, t, now);
        if (v == null || t - h < 0) {
            return null;
        }
        Integer told = told(teller, k, shop, t - h, h);
        return told == null ? null : (Integer) (v - told);
    }

    List<Integer> differences(Teller teller, int k, int shop, int h, int t, int u) {
        List<Integer> all = new ArrayList<>();
        for (int day = t; day <= u; day++) {
            Integer v = difference(teller, k, shop, h, day);
            if (v != null) {
                all.add(v);
            }
        }
        return all;
    }

    List<Integer> missesOf(int k, int shop, int h, int t, int u) {
        List<Integer> all = new ArrayList<>();
        for (int v : differences(tellers.get(k), k, shop, h, t, u)) {
            all.add(Math.abs(v));
        }
        return all;
    }

    boolean asked(int shop, int k, int h) {
        return in(shop, 0, 3) && in(k, 0, tellers.size() - 1) && in(h, 1, 14);
    }

    static boolean days(int t, int u) {
        return in(t, 0, 63) && in(u, 0, 63) && t <= u;
    }

    // ---- rows

    int now(int d) {
        if (!in(d, now, 63)) {
            return BAD;
        }
        int was = now;
        now = d;
        return was;
    }

    int figure(int shop, int day, int v) {
        if (!in(shop, 0, 3) || !in(day, 0, now) || !(v == NONE || in(v, 0, 999))) {
            return -5;
        }
        if (tellings.size() == 200) {
            return -7;
        }
        int was = answer(knownOn(shop, day, now));
        keep(new Telling(shop, day, now, v == NONE ? null : (Integer) v));
        return was;
    }

    int known(int shop, int day, int on) {
        return in(shop, 0, 3) && in(day, 0, 63) && in(on, 0, 63) ? answer(knownOn(shop, day, on)) : BAD;
    }

    int mark(int which, int day, boolean is) {
        if (!in(which, 0, 1) || !in(day, 0, 63)) {
            return BAD;
        }
        int was = marks[which][day] ? 1 : 0;
        marks[which][day] = is;
        return was;
    }

    // ---- tellers

    int feed(long v) {
        if (tape.size() > 112) {
            return FULL;
        }
        for (int i = 7; i >= 0; i--) {
            tape.add((int) (v >> 8 * i & 255));
        }
        return tape.size();
    }

    int end(int n) {
        if (!in(n, 0, tape.size())) {
            return BAD;
        }
        int had = tape.size();
        while (tape.size() > n) {
            tape.remove(tape.size() - 1);
        }
        return had;
    }

    static final class Fault extends Exception {
        private static final long serialVersionUID = 1;
        final int which, place;

        Fault(int which, int place) {
            this.which = which;
            this.place = place;
        }
    }

    private String left;
    private String token;
    private int place;

    void nextToken(int length) throws Fault {
        left = left.replaceFirst("^ +", "");
        place = length - left.length();
        if (left.isEmpty()) {
            token = "";
            return;
        }
        Matcher m = Pattern.compile("^([a-z]+|[0-9]+|;)").matcher(left);
        if (!m.find() || m.group().matches("[0-9]{3,}")) {
            throw new Fault(1, place);
        }
        token = m.group();
        left = left.substring(token.length());
    }

    int takeNumber(int length, int least, int most) throws Fault {
        nextToken(length);
        if (!token.matches("[0-9]+")) {
            throw new Fault(2, place);
        }
        int v = Integer.parseInt(token);
        if (!in(v, least, most)) {
            throw new Fault(3, place);
        }
        return v;
    }

    Teller takeLine(int length, int before) throws Fault {
        String name = token;
        if (!KINDS.contains(name)) {
            throw new Fault(2, place);
        }
        if (before == 6) {
            throw new Fault(4, place);
        }
        if (before == 0 && name.equals("joined")) {
            throw new Fault(5, place);
        }
        int a = switch (name) {
            case "same" -> takeNumber(length, 1, 14);
            case "mean" -> takeNumber(length, 1, 20);
            case "step" -> takeNumber(length, 0, 10);
            case "like" -> takeNumber(length, 1, 8);
            default -> takeNumber(length, 1, 30);
        };
        int b = name.equals("step") ? takeNumber(length, 0, 10) : 0;
        nextToken(length);
        if (!token.equals(";")) {
            throw new Fault(2, place);
        }
        return new Teller(name, a, b);
    }

    int text() {
        StringBuilder all = new StringBuilder();
        for (int sign : tape) {
            all.append((char) sign);
        }
        tape.clear();
        left = all.toString();
        List<Teller> told = new ArrayList<>();
        try {
            nextToken(all.length());
            while (!token.isEmpty()) {
                told.add(takeLine(all.length(), told.size()));
                nextToken(all.length());
            }
        } catch (Fault f) {
            fault = f.which;
            return -10 - f.place;
        }
        fault = 0;
        tellers = told;
        return told.size();
    }

    int fault() {
        return fault;
    }

    int teller(int k, int what) {
        if (!in(k, 0, tellers.size() - 1) || !in(what, 0, 2)) {
            return BAD;
        }
        Teller x = tellers.get(k);
        return what == 0 ? KINDS.indexOf(x.name) : what == 1 ? x.a : x.b;
    }

    int tells(int shop, int k, int d, int h) {
        return asked(shop, k, h) && in(d, 0, now) ? answer(told(tellers.get(k), k, shop, d, h)) : BAD;
    }

    int weight(int shop, int k, int i, int d, int h) {
        if (!asked(shop, k, h) || !asked(shop, i, h) || !in(d, 0, now) || i >= k) {
            return BAD;
        }
        if (!tellers.get(k).name.equals("joined") || tellers.get(i).name.equals("joined")) {
            return BAD;
        }
        return told(tellers.get(i), i, shop, d, h) == null ? NONE : weightIn(tellers.get(k).a, i, shop, d, h);
    }

    // ---- as if

    int miss(int shop, int k, int h, int t) {
        if (!asked(shop, k, h) || !in(t, 0, 63)) {
            return BAD;
        }
        Integer v = difference(tellers.get(k), k, shop, h, t);
        return v == null ? NONE : Math.abs(v);
    }

    int misses(int shop, int k, int h, int t, int u, int what) {
        if (!asked(shop, k, h) || !days(t, u) || !in(what, 0, 3)) {
            return BAD;
        }
        List<Integer> all = missesOf(k, shop, h, t, u);
        int most = all.stream().mapToInt(v -> v).max().orElse(NONE);
        if (what == 0) {
            return all.size();
        }
        if (what == 1) {
            return all.stream().mapToInt(v -> v).sum();
        }
        if (what == 2 || most == NONE) {
            return most;
        }
        int day = t;
        while (miss(shop, k, h, day) != most) {
            day++;
        }
        return day;
    }

    int best(int shop, int h, int t, int u) {
        if (!in(shop, 0, 3) || !in(h, 1, 14) || !days(t, u)) {
            return BAD;
        }
        int best = NONE;
        Fraction least = null;
        for (int k = 0; k < tellers.size(); k++) {
            List<Integer> all = missesOf(k, shop, h, t, u);
            if (!all.isEmpty()) {
                Fraction mean = new Fraction(all.stream().mapToInt(v -> v).sum(), all.size());
                if (least == null || mean.compareTo(least) < 0) {
                    least = mean;
                    best = k;
                }
            }
        }
        return best;
    }

    int fit(int shop, int kind, int h, int t, int u, int what) {
        if (!in(shop, 0, 3) || !in(kind, 0, 3) || !in(h, 1, 14) || !days(t, u) || !in(what, 0, 2)) {
            return BAD;
        }
        List<Teller> grid = new ArrayList<>();
        for (int a = kind == 2 ? 0 : 1; a <= (kind == 2 ? 10 : 8); a++) {
            for (int b = 0; b <= (kind == 2 ? 10 : 0); b++) {
                grid.add(new Teller(KINDS.get(kind), a, b));
            }
        }
        int n = 0;
        int days = 0;
        int sum = 0;
        for (Teller x : grid) {
            List<Integer> all = differences(x, 0, shop, h, t, u);
            int itsSum = all.stream().mapToInt(v -> Math.abs(v)).sum();
            if (all.size() > days || (all.size() == days && itsSum < sum)) {
                n = kind == 2 ? 10 * x.a + x.b : x.a;
                days = all.size();
                sum = itsSum;
            }
        }
        return days == 0 ? NONE : what == 0 ? n : what == 1 ? days : sum;
    }

    // ---- spans

    static int spanOf(List<Integer> all, int p) {
        for (int w = 0; w <= 999; w++) {
            int most = w;
            if (all.stream().filter(v -> v <= most).count() * 100 >= (long) p * all.size()) {
                return w;
            }
        }
        throw new IllegalStateException();
    }

    int span(int shop, int k, int h, int t, int u, int p) {
        if (!asked(shop, k, h) || !days(t, u) || !in(p, 1, 100)) {
            return BAD;
        }
        List<Integer> all = missesOf(k, shop, h, t, u);
        return all.isEmpty() ? NONE : spanOf(all, p);
    }

    int hold(int shop, int k, int h, int t, int u, int w) {
        if (!asked(shop, k, h) || !days(t, u) || !in(w, 0, 999)) {
            return BAD;
        }
        return (int) missesOf(k, shop, h, t, u).stream().filter(v -> v <= w).count();
    }

    int going(int shop, int k, int h, int t, int u, int p, int what) {
        if (!asked(shop, k, h) || !days(t, u) || !in(p, 1, 100) || !in(what, 0, 1)) {
            return BAD;
        }
        int days = 0;
        int within = 0;
        for (int x = t; x <= u; x++) {
            int miss = miss(shop, k, h, x);
            List<Integer> past = x - h < 0 ? List.of() : missesOf(k, shop, h, 0, x - h);
            if (miss != NONE && past.size() >= 3) {
                days++;
                within += miss <= spanOf(past, p) ? 1 : 0;
            }
        }
        return what == 0 ? days : within;
    }

    // ---- sums, numbers

    int agree(long numbers, int weights, int whole, int shop) {
        if (numbers < 0 || numbers >= 1000L * 1000 * 1000 * 1000 || !in(weights, 0, 99999999)) {
            return -100000;
        }
        if (!in(whole, 0, 9999) || !in(shop, 0, 3)) {
            return -100000;
        }
        int[] n = new int[4];
        int[] w = new int[4];
        int all = 0;
        int sum = 0;
        for (int i = 0; i < 4; i++) {
            n[i] = (int) (numbers % 1000);
            numbers /= 1000;
            w[i] = weights % 100;
            weights /= 100;
            sum += n[i];
            all += w[i];
        }
        if (all == 0) {
            return sum == whole ? n[shop] : -100004;
        }
        int sign = whole >= sum ? 1 : -1;
        int difference = Math.abs(whole - sum);
        int left = difference;
        for (int i = 0; i < 4; i++) {
            n[i] += sign * (difference * w[i] / all);
            left -= difference * w[i] / all;
        }
        while (left > 0) {
            for (int i = 0; i < 4; i++) {
                if (w[i] > 0 && left > 0) {
                    n[i] += sign;
                    left--;
                }
            }
        }
        return n[shop];
    }

    int number(int shop, int k, int h, int t, int u, int over, int under, int what) {
        if (!asked(shop, k, h) || !days(t, u) || !in(over, 1, 99) || !in(under, 1, 99) || !in(what, 0, 1)) {
            return BAD;
        }
        Integer told = told(tellers.get(k), k, shop, now, h);
        List<Integer> differences = differences(tellers.get(k), k, shop, h, t, u);
        if (told == null || differences.isEmpty()) {
            return NONE;
        }
        int least = 0;
        long leastCost = Long.MAX_VALUE;
        for (int n = 0; n <= 999; n++) {
            long cost = 0;
            for (int v : differences) {
                int odd = told + v;
                cost += n > odd ? (long) over * (n - odd) : (long) under * (odd - n);
            }
            if (cost < leastCost) {
                leastCost = cost;
                least = n;
            }
        }
        return what == 0 ? least : (int) leastCost;
    }

    // ---- what moved it

    int worth(int shop, int k, int h, int t, int u) {
        if (!asked(shop, k, h) || !days(t, u)) {
            return -100000;
        }
        int sum = 0;
        boolean any = false;
        for (int day = t; day <= u; day++) {
            Integer v = difference(tellers.get(k), k, shop, h, day);
            if (v != null && marks[1][day]) {
                any = true;
                sum += v;
            }
        }
        return any ? sum : -100004;
    }

    int dealt(int shop, int k, int h, int t, int u, int what) {
        if (!asked(shop, k, h) || !days(t, u) || !in(what, 0, 3)) {
            return BAD;
        }
        List<Integer> all = differences(tellers.get(k), k, shop, h, t, u);
        int deeds = 0;
        for (int day = t; day <= u; day++) {
            deeds += marks[1][day] && miss(shop, k, h, day) != NONE ? 1 : 0;
        }
        if (all.size() > 16) {
            return STATE;
        }
        if (what >= 2) {
            return what == 2 ? all.size() : deeds;
        }
        if (what == 0 && deeds == 0) {
            return NONE;
        }
        int worth = worth(shop, k, h, t, u);
        int ways = 0;
        for (int set = 0; set < 1 << all.size(); set++) {
            int sum = 0;
            for (int i = 0; i < all.size(); i++) {
                sum += (set >> i & 1) * all.get(i);
            }
            ways += Integer.bitCount(set) == deeds && (what == 1 || sum >= worth) ? 1 : 0;
        }
        return ways;
    }

    static Fraction squares(List<Integer> some) {
        Fraction mean = new Fraction(some.stream().mapToInt(v -> v).sum(), some.size());
        Fraction sum = new Fraction(0, 1);
        for (int v : some) {
            Fraction off = new Fraction(v, 1).minus(mean);
            sum = sum.plus(off.times(off));
        }
        return sum;
    }

    int change(int shop, int t, int u) {
        if (!in(shop, 0, 3) || !days(t, u)) {
            return BAD;
        }
        int best = NONE;
        Fraction least = null;
        for (int day = t + 1; day <= u; day++) {
            List<Integer> ahead = new ArrayList<>();
            List<Integer> behind = new ArrayList<>();
            for (int x = t; x <= u; x++) {
                Integer v = knownOn(shop, x, now);
                if (v != null) {
                    (x < day ? ahead : behind).add(v);
                }
            }
            if (!ahead.isEmpty() && !behind.isEmpty()) {
                Fraction sum = squares(ahead).plus(squares(behind));
                if (least == null || sum.compareTo(least) < 0) {
                    least = sum;
                    best = day;
                }
            }
        }
        return best;
    }

    // ---- notes

    int note(int shop, int k, int h, int width) {
        if (!asked(shop, k, h) || !in(width, 0, 999)) {
            return BAD;
        }
        if (notes.size() == 24) {
            return FULL;
        }
        Integer told = told(tellers.get(k), k, shop, now, h);
        if (told == null) {
            return NONE;
        }
        Note n = new Note();
        n.shop = shop;
        n.k = k;
        n.on = now;
        n.day = now + h;
        n.told = told;
        n.width = width;
        notes.add(n);
        return notes.size() - 1;
    }

    boolean came(Note n) {
        return knownOn(n.shop, n.day, now) != null;
    }

    boolean held(Note n) {
        return came(n) && Math.abs(knownOn(n.shop, n.day, now) - n.told) <= n.width;
    }

    int noteOf(int i, int what) {
        if (!in(i, 0, notes.size() - 1) || !in(what, 0, 8)) {
            return BAD;
        }
        Note n = notes.get(i);
        return switch (what) {
            case 0 -> n.shop;
            case 1 -> n.k;
            case 2 -> n.on;
            case 3 -> n.day;
            case 4 -> n.told;
            case 5 -> n.width;
            case 6 -> answer(knownOn(n.shop, n.day, now));
            case 7 -> !came(n) ? NONE : held(n) ? 1 : 0;
            default -> n.acted ? 1 : 0;
        };
    }

    int acted(int i) {
        if (!in(i, 0, notes.size() - 1)) {
            return BAD;
        }
        Note n = notes.get(i);
        if (n.acted || came(n)) {
            return STATE;
        }
        n.acted = true;
        return 1;
    }

    int notes(int what) {
        if (!in(what, 0, 3)) {
            return BAD;
        }
        return (int) notes.stream().filter(n -> what % 2 == 0 ? came(n) : held(n))
                .filter(n -> what < 2 || !n.acted).count();
    }

    // ---- sheets: here the machine itself finds the faults

    int sheet(int k, int lane, int n) {
        if (!in(k, 0, 3) || !in(lane, 0, 2) || n > 64) {
            return BAD;
        }
        try {
            sheets[k] = lane == 0 ? new byte[n] : lane == 1 ? new short[n] : new int[n];
        } catch (NegativeArraySizeException e) {
            return -14;
        }
        return 1;
    }

    int lay(int k, int i, int v) {
        if (!in(k, 0, 3)) {
            return BAD;
        }
        try {
            Object row = sheets[k];
            if (row instanceof byte[] bytes) {
                bytes[i] = (byte) v;
            } else if (row instanceof short[] shorts) {
                shorts[i] = (short) v;
            } else {
                ((int[]) row)[i] = v;
            }
        } catch (NullPointerException e) {
            return -11;
        } catch (ArrayIndexOutOfBoundsException e) {
            return -12;
        }
        return 1;
    }

    int cell(int k, int lane, int i) {
        return lane == 0 ? ((byte[]) sheets[k])[i] : lane == 1 ? ((short[]) sheets[k])[i] : ((int[]) sheets[k])[i];
    }

    int read(int shop, int day, int k, int lane, int f, int n) {
        if (!in(shop, 0, 3) || !in(day, 0, 63) || !in(k, 0, 3) || !in(lane, 0, 2) || !in(n, 0, 64)) {
            return BAD;
        }
        if (n > 0 && day + n - 1 > now) {
            return BAD;
        }
        List<Telling> fresh = new ArrayList<>();
        int found = 0;
        try {
            for (int i = 0; i < n; i++) {
                int v = cell(k, lane, f + i);
                if (v > 999) {
                    return -20 - i;
                }
                Integer told = v < 0 ? null : (Integer) v;
                if (!Objects.equals(told, knownOn(shop, day + i, now))) {
                    fresh.add(new Telling(shop, day + i, now, told));
                }
                if (tellings.size() + fresh.size() > 200) {
                    return FULL;
                }
            }
        } catch (NullPointerException e) {
            found = 1;
        } catch (ArrayIndexOutOfBoundsException e) {
            found = 2;
        } catch (ClassCastException e) {
            found = 3;
        }
        fresh.forEach(this::keep);
        torn = found;
        return fresh.size();
    }

    int torn() {
        return torn;
    }

    int count(int what) {
        switch (what) {
            case 0:
                return now;
            case 1:
                return tellings.size();
            case 2:
            case 3:
                int marked = 0;
                for (boolean is : marks[what - 2]) {
                    marked += is ? 1 : 0;
                }
                return marked;
            case 4:
                return tellers.size();
            case 5:
                return notes.size();
            case 6:
                int gaps = 0;
                for (int shop = 0; shop < 4; shop++) {
                    for (int day = 0; day <= now; day++) {
                        gaps += knownOn(shop, day, now) == null ? 1 : 0;
                    }
                }
                return gaps;
            case 7:
                return tape.size();
            case 8:
                return sheets[0] == null ? NONE : java.lang.reflect.Array.getLength(sheets[0]);
            default:
                return BAD;
        }
    }

    /** Exact, of any size. */
    static final class Fraction implements Comparable<Fraction> {
        private final BigInteger top, bottom;

        Fraction(long top, long bottom) {
            this(BigInteger.valueOf(top), BigInteger.valueOf(bottom));
        }

        private Fraction(BigInteger top, BigInteger bottom) {
            BigInteger common = top.gcd(bottom);
            this.top = top.divide(common);
            this.bottom = bottom.divide(common);
        }

        Fraction plus(Fraction o) {
            return new Fraction(top.multiply(o.bottom).add(o.top.multiply(bottom)), bottom.multiply(o.bottom));
        }

        Fraction minus(Fraction o) {
            return new Fraction(top.multiply(o.bottom).subtract(o.top.multiply(bottom)), bottom.multiply(o.bottom));
        }

        Fraction times(Fraction o) {
            return new Fraction(top.multiply(o.top), bottom.multiply(o.bottom));
        }

        @Override
        public int compareTo(Fraction o) {
            return top.multiply(o.bottom).compareTo(o.top.multiply(bottom));
        }
    }
}
