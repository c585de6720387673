import java.util.Random;

/** Long runs of calls, the same ones to the class and to the plain model, from seeds that are fixed. */
final class ModelTest {
    private static final String[] NAMES = {"same", "mean", "step", "like", "joined"};
    private static final int[] MOST = {14, 20, 10, 8, 30};
    /** Signs next to those of tokens, and some of tokens. */
    private static final String SIGNS = "?;7 a@[`{/:<\u00ff\u0000\t";
    private static final int[] ODD = {-100005, -5, -4, -3, -2, -1, 64, 65, 1000, 10000,
        Integer.MAX_VALUE, Integer.MIN_VALUE, 1 << 30};

    private final Due due;
    private final Random random;
    private final NextFigures x = new NextFigures();
    private final PlainModel y = new PlainModel();
    private final int seed;
    /** How dear the run may be, and how often numbers are wrong. */
    private final int wrongs;
    private int calls;

    private ModelTest(Due due, int seed) {
        this.due = due;
        this.seed = seed;
        random = new Random(seed);
        wrongs = seed % 3 == 0 ? 12 : 60;
    }

    public static void main(String[] args) {
        Due due = new Due("ModelTest");
        int runs = args.length > 0 ? Integer.parseInt(args[0]) : 90;
        for (int seed = 1; seed <= runs; seed++) {
            new ModelTest(due, seed).run();
        }
        due.end();
    }

    private int below(int n) {
        return random.nextInt(n);
    }

    /** A number from least to most, now and then one that is not. */
    private int some(int least, int most) {
        int dice = below(wrongs * 4);
        if (dice == 0) {
            return ODD[below(ODD.length)];
        }
        if (dice < 3) {
            return dice == 1 ? least - 1 : most + 1;
        }
        return least + below(most - least + 1);
    }

    private void same(long got, long want, String call, long... numbers) {
        StringBuilder told = new StringBuilder("seed " + seed + " call " + calls + " " + call + "(");
        for (int i = 0; i < numbers.length; i++) {
            told.append(i == 0 ? "" : ", ").append(numbers[i]);
        }
        due.is(told.append(")").toString(), got, want);
        calls++;
    }

    private void run() {
        int lastNow = new int[] {6, 20, 40, 63}[seed / 4 % 4];
        text();
        begin(lastNow);
        while (calls < 512) {
            int dice = below(100);
            if (dice < 30) {
                rows(lastNow);
            } else if (dice < 40) {
                sheets();
            } else if (dice < 45) {
                notes();
            } else if (dice < 47) {
                text();
            } else {
                ask();
            }
        }
        for (int what = -1; what <= 9; what++) {
            same(x.count(what), y.count(what), "count", what);
        }
    }

    /** Most runs begin with days that have passed, some with nearly as many tellings as there may be. */
    private void begin(int lastNow) {
        int days = seed % 5 == 0 ? 0 : below(lastNow);
        for (int day = 0; day < days; day++) {
            int v = value(day);
            same(x.figure(0, day, v), y.figure(0, day, v), "figure", 0, day, v);
            same(x.now(day + 1), y.now(day + 1), "now", day + 1);
        }
        if (seed % 7 == 0) {
            manyTellings();
        }
    }

    private void manyTellings() {
        same(x.sheet(0, 2, 64), y.sheet(0, 2, 64), "sheet", 0, 2, 64);
        for (int i = 0; i < 30; i++) {
            int v = value(i);
            same(x.lay(0, i, v), y.lay(0, i, v), "lay", 0, i, v);
        }
        int n = Math.min(y.now + 1, 29);
        for (int times = 0; times < 12; times++) {
            int shop = 1 + times % 3;
            int f = times % 2;
            same(x.read(shop, 0, 0, 2, f, n), y.read(shop, 0, 0, 2, f, n), "read", shop, 0, 0, 2, f, n);
        }
    }

    private void rows(int lastNow) {
        int dice = below(16);
        int shop = below(3) > 0 ? 0 : some(0, 3);
        if (dice == 0 && y.now < lastNow) {
            int d = Math.min(lastNow, y.now + below(seed % 5 == 0 ? 12 : 4));
            same(x.now(d), y.now(d), "now", d);
        } else if (dice == 1) {
            int d = some(0, 63);
            if (d <= y.now + 3) {
                same(x.now(d), y.now(d), "now", d);
            }
        } else if (dice == 2) {
            int which = some(0, 1);
            int day = some(0, Math.min(63, y.now + 14));
            boolean is = below(3) > 0;
            same(x.mark(which, day, is), y.mark(which, day, is), "mark", which, day, is ? 1 : 0);
        } else if (dice == 3) {
            int day = some(0, 63);
            int on = some(0, 63);
            same(x.known(shop, day, on), y.known(shop, day, on), "known", shop, day, on);
        } else if (dice < 9 && y.now < lastNow) {
            int v = value(y.now);
            same(x.figure(0, y.now, v), y.figure(0, y.now, v), "figure", 0, y.now, v);
            same(x.now(y.now + 1), y.now(y.now + 1), "now", y.now);
        } else {
            int day = below(8) == 0 ? some(0, 63) : some(Math.max(0, y.now - 20), y.now);
            int v = below(20) == 0 ? some(0, 999) : value(day);
            same(x.figure(shop, day, v), y.figure(shop, day, v), "figure", shop, day, v);
        }
    }

    private int value(int day) {
        if (below(9) == 0) {
            return NextFigures.NONE;
        }
        return switch (seed % 4) {
            case 0 -> below(1000);
            case 1 -> below(3) * 499;
            case 2 -> Math.min(999, 20 + day * 9 + below(12));
            default -> 50 + day % 7 * 20 + below(4);
        };
    }

    private void text() {
        StringBuilder text = new StringBuilder();
        int lines = 1 + below(7);
        boolean clean = below(3) > 0;
        for (int i = 0; i < lines; i++) {
            int kind = i == 0 && below(12) > 0 ? below(4) : below(5);
            text.append(clean || below(9) > 0 ? NAMES[kind] : "sam").append(" ".repeat(below(3)));
            text.append(numberFor(kind, clean));
            if (kind == 2) {
                text.append(" ".repeat(1 + below(2))).append(numberFor(kind, clean));
            }
            text.append(" ".repeat(below(2))).append(clean || below(9) > 0 ? ";" : "").append(" ".repeat(below(2)));
        }
        if (!clean && below(3) == 0) {
            text.setCharAt(below(text.length()), SIGNS.charAt(below(SIGNS.length())));
        }
        feed(text);
        same(x.text(), y.text(), "text");
        same(x.fault(), y.fault(), "fault");
        for (int k = 0; k < 7; k++) {
            int what = some(0, 2);
            same(x.teller(k, what), y.teller(k, what), "teller", k, what);
        }
    }

    private String numberFor(int kind, boolean clean) {
        int least = kind == 2 ? 0 : 1;
        int v = clean ? least + below(MOST[kind] + 1 - least) : below(MOST[kind] + 2);
        if (kind == 1 && clean) {
            v = 1 + below(5);
        }
        return (v < 10 && below(4) == 0 ? "0" : "") + (clean || below(30) > 0 ? v : v + "00");
    }

    private void feed(CharSequence text) {
        String padded = text + " ".repeat(7);
        for (int i = 0; i + 8 <= padded.length(); i += 8) {
            long v = Due.word(padded.substring(i, i + 8));
            same(x.feed(v), y.feed(v), "feed", v);
        }
        int n = Math.min(text.length(), 120);
        same(x.end(n), y.end(n), "end", n);
        if (below(9) == 0) {
            int m = some(0, 120);
            same(x.end(m), y.end(m), "end", m);
        }
    }

    private void notes() {
        int dice = below(5);
        int i = some(0, Math.max(0, y.notes.size() - 1));
        int what = some(0, 8);
        if (dice < 2) {
            int shop = below(3) > 0 ? 0 : some(0, 3);
            int k = teller();
            int h = some(1, 14);
            int width = some(0, 999) / (1 + below(40));
            same(x.note(shop, k, h, width), y.note(shop, k, h, width), "note", shop, k, h, width);
        } else if (dice == 2) {
            same(x.noteOf(i, what), y.noteOf(i, what), "noteOf", i, what);
        } else if (dice == 3 && below(4) == 0) {
            same(x.acted(i), y.acted(i), "acted", i);
        } else {
            int which = some(0, 3);
            same(x.notes(which), y.notes(which), "notes", which);
        }
    }

    private void sheets() {
        int k = some(0, 3);
        int lane = below(3) > 0 && k >= 0 && k < 3 ? k : some(0, 2);
        int dice = below(8);
        if (dice == 0 || (k >= 0 && k < 4 && y.sheets[k] == null && below(3) > 0)) {
            int n = below(3) == 0 ? some(0, 64) : 5 + below(20) - below(3) * 3;
            same(x.sheet(k, lane, n), y.sheet(k, lane, n), "sheet", k, lane, n);
        } else if (dice < 5) {
            int i = below(10) == 0 ? some(0, 63) : below(16);
            int v = below(20) == 0 ? some(-70000, 70000) : below(8) == 0 ? some(-9, 1001) : value(i);
            same(x.lay(k, i, v), y.lay(k, i, v), "lay", k, i, v);
        } else {
            int shop = some(0, 3);
            int n = below(8) == 0 ? some(0, 64) : below(10);
            int day = below(4) == 0 ? some(0, 63) : Math.max(0, y.now + 1 - below(3) - n);
            int f = below(10) == 0 ? some(0, 64) : below(6);
            if (k >= 0 && k < 4 && y.sheets[k] != null && below(4) > 0) {
                lane = y.sheets[k] instanceof byte[] ? 0 : y.sheets[k] instanceof short[] ? 1 : 2;
            }
            same(x.read(shop, day, k, lane, f, n), y.read(shop, day, k, lane, f, n), "read", shop, day, k, lane, f, n);
            same(x.torn(), y.torn(), "torn");
        }
    }

    private int joined(int otherwise) {
        for (int k = 0; k < y.tellers.size(); k++) {
            if (y.teller(k, 0) == 4) {
                return k;
            }
        }
        return otherwise;
    }

    private int teller() {
        return some(0, Math.max(0, y.tellers.size() - 1));
    }

    private void ask() {
        int shop = below(4) > 0 ? 0 : some(0, 3);
        int k = teller();
        int h = below(3) > 0 ? some(1, 4) : some(1, 14);
        int t = below(2) > 0 ? some(0, Math.max(0, y.now)) : some(0, 63);
        int u = below(4) == 0 ? some(0, 63) : Math.min(63, t + below(24));
        if (below(3) == 0) {
            t = 0;
            u = y.now;
        }
        int dice = below(17);
        if (dice < 6) {
            askPlain(dice, shop, k, h, t, u);
        } else {
            askOver(dice, shop, k, h, t, u);
        }
    }

    private void askPlain(int dice, int shop, int k, int h, int t, int u) {
        int d = below(3) == 0 ? y.now : some(0, y.now);
        switch (dice) {
            case 0, 1 -> same(x.tells(shop, k, d, h), y.tells(shop, k, d, h), "tells", shop, k, d, h);
            case 2 -> {
                int i = teller();
                if (below(6) > 0) {
                    i = 0;
                    k = joined(k);
                }
                same(x.weight(shop, k, i, d, h), y.weight(shop, k, i, d, h), "weight", shop, k, i, d, h);
            }
            case 3 -> same(x.miss(shop, k, h, t), y.miss(shop, k, h, t), "miss", shop, k, h, t);
            case 4 -> {
                int what = some(0, 8);
                same(x.count(what), y.count(what), "count", what);
            }
            default -> agree();
        }
    }

    private void agree() {
        long numbers = below(20) == 0 ? random.nextLong() : random.nextLong(1_000_000_000_000L);
        int weights = 0;
        for (int i = 0; i < 4; i++) {
            weights = weights * 100 + (below(3) == 0 ? 0 : below(100));
        }
        weights = below(20) == 0 ? some(0, 99999999) : weights;
        int whole = some(0, 9999);
        for (int shop = 0; shop < 4; shop++) {
            same(x.agree(numbers, weights, whole, shop), y.agree(numbers, weights, whole, shop),
                "agree", numbers, weights, whole, shop);
        }
    }

    private void askOver(int dice, int shop, int k, int h, int t, int u) {
        int p = some(1, 100);
        int two = some(0, 1);
        int three = some(0, 2);
        int four = some(0, 3);
        switch (dice) {
            case 6 -> same(x.misses(shop, k, h, t, u, four), y.misses(shop, k, h, t, u, four),
                "misses", shop, k, h, t, u, four);
            case 7 -> same(x.best(shop, h, t, u), y.best(shop, h, t, u), "best", shop, h, t, u);
            case 8, 9 -> {
                int kind = below(3) == 0 ? 2 : some(0, 3);
                same(x.fit(shop, kind, h, t, u, three), y.fit(shop, kind, h, t, u, three),
                    "fit", shop, kind, h, t, u, three);
            }
            case 10 -> same(x.span(shop, k, h, t, u, p), y.span(shop, k, h, t, u, p), "span", shop, k, h, t, u, p);
            case 11 -> {
                int w = some(0, 999) / (1 + below(9));
                same(x.hold(shop, k, h, t, u, w), y.hold(shop, k, h, t, u, w), "hold", shop, k, h, t, u, w);
            }
            case 12 -> same(x.going(shop, k, h, t, u, p, two), y.going(shop, k, h, t, u, p, two),
                "going", shop, k, h, t, u, p, two);
            case 13 -> {
                int over = some(1, 99);
                int under = some(1, 99);
                same(x.number(shop, k, h, t, u, over, under, two), y.number(shop, k, h, t, u, over, under, two),
                    "number", shop, k, h, t, u, over, under, two);
            }
            case 14 -> same(x.worth(shop, k, h, t, u), y.worth(shop, k, h, t, u), "worth", shop, k, h, t, u);
            case 15 -> same(x.dealt(shop, k, h, t, u, four), y.dealt(shop, k, h, t, u, four),
                "dealt", shop, k, h, t, u, four);
            default -> same(x.change(shop, t, u), y.change(shop, t, u), "change", shop, t, u);
        }
    }
}
