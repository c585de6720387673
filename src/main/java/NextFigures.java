import java.util.Arrays;

/** Next week's figures of four shops: small tellers, played over past days as if then. */
public final class NextFigures {
    public static final int BAD = -1, STATE = -2, FULL = -3, NONE = -4;

    private static final int SHOPS = 4;
    private static final int DAYS = 64;
    private static final int WEEK = 7;
    private static final int AHEAD = 14;
    private static final int FIGURE = 999;
    private static final int TELLINGS = 200;
    private static final int TAPE_BYTES = 120;
    private static final int LINES = 6;
    private static final int NOTES = 24;
    private static final int SHEETS = 4;
    private static final int CELLS = 64;
    private static final int LANES = 3;
    private static final int CHOICE = 16;

    private static final int SAME = 0, MEAN = 1, STEP = 2, LIKE = 3, JOINED = 4;
    private static final int FITTED = 8;
    private static final int STEPS = 11;
    private static final int GRID = STEPS * STEPS;

    /** Where sums can be below 0, the refusals lie beyond what a sum can reach. */
    private static final int FAR_BAD = -100000, FAR_NONE = -100004;
    private static final int FIGURE_BAD = -5, FIGURE_FULL = -7;
    /** No difference of two figures comes near it. */
    private static final int ABSENT = -1000000;

    private static final int NO_FAULT = 0, NULL = 1, INDEX = 2, CAST = 3, SIZE = 4;

    private final Rows rows;
    private final Tape tape;
    private final Lines tellers;
    private final Play play;
    private final Grid grid;
    private final Notes kept;
    private final Sheets sheets;

    public NextFigures() {
        Rows allRows = new Rows();
        Lines allTellers = new Lines();
        rows = allRows;
        tape = new Tape();
        tellers = allTellers;
        play = new Play(allRows, allTellers);
        grid = new Grid(allRows);
        kept = new Notes();
        sheets = new Sheets();
    }

    // ---- rows

    public int now(int d) {
        if (!isDay(d) || d < rows.now) {
            return BAD;
        }
        int was = rows.now;
        rows.now = d;
        return was;
    }

    public int figure(int shop, int day, int v) {
        boolean isFigure = v == NONE || (v >= 0 && v <= FIGURE);
        if (!isShop(shop) || !isDay(day) || day > rows.now || !isFigure) {
            return FIGURE_BAD;
        }
        if (rows.tellings >= TELLINGS) {
            return FIGURE_FULL;
        }
        int was = rows.valueOn(shop, day, rows.now);
        rows.tell(shop, day, v);
        return was;
    }

    public int known(int shop, int day, int on) {
        if (!isShop(shop) || !isDay(day) || !isDay(on)) {
            return BAD;
        }
        return rows.valueOn(shop, day, on);
    }

    public int mark(int which, int day, boolean is) {
        if (which < 0 || which > 1 || !isDay(day)) {
            return BAD;
        }
        boolean[] marks = which == 0 ? rows.feasts : rows.deeds;
        int was = marks[day] ? 1 : 0;
        marks[day] = is;
        return was;
    }

    // ---- tellers

    public int feed(long v) {
        return tape.push(v);
    }

    public int end(int n) {
        if (n < 0 || n > tape.length) {
            return BAD;
        }
        int had = tape.length;
        tape.length = n;
        return had;
    }

    public int text() {
        tape.readAll();
        tape.length = 0;
        if (tape.found != NO_FAULT) {
            return -10 - tape.start;
        }
        tellers.copy(tape.lines);
        return tellers.size;
    }

    public int fault() {
        return tape.found;
    }

    public int teller(int k, int what) {
        if (!isTeller(k) || what < 0 || what > 2) {
            return BAD;
        }
        return what == 0 ? tellers.kind[k] : what == 1 ? tellers.first[k] : tellers.second[k];
    }

    public int tells(int shop, int k, int d, int h) {
        if (!isAsked(shop, k, h) || d < 0 || d > rows.now) {
            return BAD;
        }
        play.run(shop, k, h, d, d);
        return play.toldBy(k, d);
    }

    public int weight(int shop, int k, int i, int d, int h) {
        if (!isAsked(shop, k, h) || d < 0 || d > rows.now || !isJoinedTo(k, i)) {
            return BAD;
        }
        play.run(shop, i, h, 0, d);
        return play.toldBy(i, d) == NONE ? NONE : play.weightOf(i, tellers.first[k], d);
    }

    // ---- as if

    public int miss(int shop, int k, int h, int t) {
        if (!isAsked(shop, k, h) || !isDay(t)) {
            return BAD;
        }
        play.compare(shop, k, h, t, t);
        return play.missOf(t);
    }

    public int misses(int shop, int k, int h, int t, int u, int what) {
        if (!isAsked(shop, k, h) || !areDays(t, u) || what < 0 || what > 3) {
            return BAD;
        }
        play.compare(shop, k, h, t, u);
        if (what < 2) {
            return what == 0 ? play.missed : play.missSum;
        }
        int day = play.worstDay(t, u);
        return day < 0 ? NONE : what == 2 ? play.missOf(day) : day;
    }

    public int best(int shop, int h, int t, int u) {
        if (!isShop(shop) || !isAhead(h) || !areDays(t, u)) {
            return BAD;
        }
        int best = NONE;
        int bestDays = 0;
        int bestSum = 0;
        for (int k = 0; k < tellers.size; k++) {
            play.compare(shop, k, h, t, u);
            boolean less = (long) play.missSum * bestDays < (long) bestSum * play.missed;
            if (play.missed > 0 && (best < 0 || less)) {
                best = k;
                bestDays = play.missed;
                bestSum = play.missSum;
            }
        }
        return best;
    }

    public int fit(int shop, int kind, int h, int t, int u, int what) {
        boolean isKind = kind >= SAME && kind <= LIKE;
        if (!isShop(shop) || !isKind || !isAhead(h) || !areDays(t, u) || what < 0 || what > 2) {
            return BAD;
        }
        grid.run(shop, kind, h, t, u);
        int point = grid.bestPoint();
        if (grid.days[point] == 0) {
            return NONE;
        }
        if (what > 0) {
            return what == 1 ? grid.days[point] : grid.sums[point];
        }
        return kind == STEP ? point / STEPS * 10 + point % STEPS : point + 1;
    }

    // ---- spans

    public int span(int shop, int k, int h, int t, int u, int p) {
        if (!isAsked(shop, k, h) || !areDays(t, u) || !isPercent(p)) {
            return BAD;
        }
        play.compare(shop, k, h, t, u);
        play.sortedSize = 0;
        for (int day = t; day <= u; day++) {
            play.sortMiss(day);
        }
        return play.spanOf(p);
    }

    public int hold(int shop, int k, int h, int t, int u, int w) {
        if (!isAsked(shop, k, h) || !areDays(t, u) || w < 0 || w > FIGURE) {
            return BAD;
        }
        play.compare(shop, k, h, t, u);
        int within = 0;
        for (int day = t; day <= u; day++) {
            int miss = play.missOf(day);
            if (miss != NONE && miss <= w) {
                within++;
            }
        }
        return within;
    }

    public int going(int shop, int k, int h, int t, int u, int p, int what) {
        if (!isAsked(shop, k, h) || !areDays(t, u) || !isPercent(p) || what < 0 || what > 1) {
            return BAD;
        }
        play.compare(shop, k, h, 0, u);
        play.sortedSize = 0;
        int next = 0;
        int days = 0;
        int within = 0;
        for (int x = t; x <= u; x++) {
            for (; next <= x - h; next++) {
                play.sortMiss(next);
            }
            int miss = play.missOf(x);
            if (miss != NONE && play.sortedSize >= 3) {
                days++;
                within += miss <= play.spanOf(p) ? 1 : 0;
            }
        }
        return what == 0 ? days : within;
    }

    // ---- sums, numbers

    public int agree(long numbers, int weights, int whole, int shop) {
        boolean areNumbers = numbers >= 0 && numbers < 1000000000000L;
        boolean areWeights = weights >= 0 && weights < 100000000;
        if (!areNumbers || !areWeights || whole < 0 || whole > 9999 || !isShop(shop)) {
            return FAR_BAD;
        }
        int sum = 0;
        int allWeights = 0;
        for (int s = 0; s < SHOPS; s++) {
            sum += numberAt(numbers, s);
            allWeights += weightAt(weights, s);
        }
        int own = numberAt(numbers, shop);
        if (sum == whole) {
            return own;
        }
        if (allWeights == 0) {
            return FAR_NONE;
        }
        int share = shareOf(weights, allWeights, Math.abs(whole - sum), shop);
        return whole > sum ? own + share : own - share;
    }

    public int number(int shop, int k, int h, int t, int u, int over, int under, int what) {
        if (!isAsked(shop, k, h) || !areDays(t, u) || what < 0 || what > 1) {
            return BAD;
        }
        if (!isCost(over) || !isCost(under)) {
            return BAD;
        }
        play.run(shop, k, h, rows.now, rows.now);
        int told = play.toldBy(k, rows.now);
        play.compare(shop, k, h, t, u);
        if (told == NONE || play.missed == 0) {
            return NONE;
        }
        int least = play.leastCostly(told, t, u, over, under);
        return what == 0 ? least : play.costOf(least - told, t, u, over, under);
    }

    // ---- what moved it

    public int worth(int shop, int k, int h, int t, int u) {
        if (!isAsked(shop, k, h) || !areDays(t, u)) {
            return FAR_BAD;
        }
        play.compare(shop, k, h, t, u);
        play.gather(t, u);
        return play.deedCount == 0 ? FAR_NONE : play.deedSum;
    }

    public int dealt(int shop, int k, int h, int t, int u, int what) {
        if (!isAsked(shop, k, h) || !areDays(t, u) || what < 0 || what > 3) {
            return BAD;
        }
        play.compare(shop, k, h, t, u);
        play.gather(t, u);
        if (play.missed > CHOICE) {
            return STATE;
        }
        if (what > 1) {
            return what == 2 ? play.missed : play.deedCount;
        }
        if (what == 0 && play.deedCount == 0) {
            return NONE;
        }
        int least = what == 0 ? play.deedSum : FAR_BAD;
        return Play.waysFrom(play.choice, play.missed, 0, play.deedCount, least);
    }

    public int change(int shop, int t, int u) {
        if (!isShop(shop) || !areDays(t, u)) {
            return BAD;
        }
        return rows.changeOf(shop, t, u);
    }

    // ---- notes

    public int note(int shop, int k, int h, int width) {
        if (!isAsked(shop, k, h) || width < 0 || width > FIGURE) {
            return BAD;
        }
        if (kept.size >= NOTES) {
            return FULL;
        }
        play.run(shop, k, h, rows.now, rows.now);
        int told = play.toldBy(k, rows.now);
        if (told == NONE) {
            return NONE;
        }
        return kept.add(shop, k, rows.now, rows.now + h, told, width);
    }

    public int noteOf(int i, int what) {
        if (i < 0 || i >= kept.size || what < 0 || what > 8) {
            return BAD;
        }
        switch (what) {
            case 0:
                return kept.shop[i];
            case 1:
                return kept.teller[i];
            case 2:
                return kept.on[i];
            case 3:
                return kept.day[i];
            case 4:
                return kept.told[i];
            case 5:
                return kept.width[i];
            case 6:
                return figureOfNote(i);
            case 7:
                return heldOfNote(i);
            default:
                return kept.acted[i] ? 1 : 0;
        }
    }

    public int acted(int i) {
        if (i < 0 || i >= kept.size) {
            return BAD;
        }
        if (kept.acted[i] || figureOfNote(i) != NONE) {
            return STATE;
        }
        kept.acted[i] = true;
        return 1;
    }

    public int notes(int what) {
        if (what < 0 || what > 3) {
            return BAD;
        }
        boolean mustHold = what == 1 || what == 3;
        int found = 0;
        for (int i = 0; i < kept.size; i++) {
            int held = heldOfNote(i);
            boolean counts = held != NONE && (what < 2 || !kept.acted[i]);
            if (counts && (held == 1 || !mustHold)) {
                found++;
            }
        }
        return found;
    }

    // ---- sheets

    public int sheet(int k, int lane, int n) {
        if (!isSheet(k) || !isLane(lane) || n > CELLS) {
            return BAD;
        }
        if (n < 0) {
            return -10 - SIZE;
        }
        sheets.renew(k, lane, n);
        return 1;
    }

    public int lay(int k, int i, int v) {
        if (!isSheet(k)) {
            return BAD;
        }
        int found = sheets.faultAt(k, sheets.lane[k], i);
        if (found != NO_FAULT) {
            return -10 - found;
        }
        sheets.put(k, i, v);
        return 1;
    }

    public int read(int shop, int day, int k, int lane, int f, int n) {
        if (!isShop(shop) || !isDay(day) || !isSheet(k) || !isLane(lane) || n < 0 || n > CELLS) {
            return BAD;
        }
        // without a day to read none is behind NOW, wherever the reading would begin
        if (n > 0 && day + n - 1 > rows.now) {
            return BAD;
        }
        int found = NO_FAULT;
        int readable = 0;
        int fresh = 0;
        for (int i = 0; i < n && found == NO_FAULT; i++) {
            found = sheets.faultAt(k, lane, f + i);
            if (found == NO_FAULT) {
                int v = sheets.cell(k, f + i);
                if (v > FIGURE) {
                    return -20 - i;
                }
                fresh += isKnownSo(shop, day + i, v) ? 0 : 1;
                if (rows.tellings + fresh > TELLINGS) {
                    return FULL;
                }
                readable++;
            }
        }
        tellFromSheet(shop, day, k, f, readable);
        sheets.torn = found;
        return fresh;
    }

    public int torn() {
        return sheets.torn;
    }

    public int count(int what) {
        switch (what) {
            case 0:
                return rows.now;
            case 1:
                return rows.tellings;
            case 2:
                return marked(rows.feasts);
            case 3:
                return marked(rows.deeds);
            case 4:
                return tellers.size;
            case 5:
                return kept.size;
            case 6:
                return rows.gaps();
            case 7:
                return tape.length;
            case 8:
                return sheets.lane[0] < 0 ? NONE : sheets.length[0];
            default:
                return BAD;
        }
    }

    // ---- what the calls share

    private static boolean isShop(int shop) {
        return shop >= 0 && shop < SHOPS;
    }

    private static boolean isDay(int day) {
        return day >= 0 && day < DAYS;
    }

    private static boolean areDays(int t, int u) {
        return isDay(t) && isDay(u) && t <= u;
    }

    private static boolean isAhead(int h) {
        return h >= 1 && h <= AHEAD;
    }

    private static boolean isPercent(int p) {
        return p >= 1 && p <= 100;
    }

    private static boolean isCost(int cost) {
        return cost >= 1 && cost <= 99;
    }

    private static boolean isSheet(int k) {
        return k >= 0 && k < SHEETS;
    }

    private static boolean isLane(int lane) {
        return lane >= 0 && lane < LANES;
    }

    private boolean isTeller(int k) {
        return k >= 0 && k < tellers.size;
    }

    private boolean isAsked(int shop, int k, int h) {
        return isShop(shop) && isTeller(k) && isAhead(h);
    }

    private boolean isJoinedTo(int k, int i) {
        return i >= 0 && i < k && isTeller(k) && tellers.kind[k] == JOINED && tellers.kind[i] != JOINED;
    }

    private static int numberAt(long numbers, int shop) {
        long rest = numbers;
        for (int s = 0; s < shop; s++) {
            rest /= 1000;
        }
        return (int) (rest % 1000);
    }

    private static int weightAt(int weights, int shop) {
        int rest = weights;
        for (int s = 0; s < shop; s++) {
            rest /= 100;
        }
        return rest % 100;
    }

    /** What a shop gets of a difference: its part by weight, and one of what the parts leave over. */
    private static int shareOf(int weights, int allWeights, int difference, int shop) {
        if (allWeights <= 0) {
            return 0;
        }
        int left = difference;
        for (int s = 0; s < SHOPS; s++) {
            left -= difference * weightAt(weights, s) / allWeights;
        }
        int share = difference * weightAt(weights, shop) / allWeights;
        for (int s = 0; s < shop; s++) {
            left -= weightAt(weights, s) > 0 ? 1 : 0;
        }
        return left > 0 && weightAt(weights, shop) > 0 ? share + 1 : share;
    }

    private int figureOfNote(int i) {
        return rows.valueOn(kept.shop[i], kept.day[i], rows.now);
    }

    private int heldOfNote(int i) {
        int came = figureOfNote(i);
        if (came == NONE) {
            return NONE;
        }
        return Math.abs(came - kept.told[i]) <= kept.width[i] ? 1 : 0;
    }

    private boolean isKnownSo(int shop, int day, int cell) {
        return rows.valueOn(shop, day, rows.now) == (cell < 0 ? NONE : cell);
    }

    private void tellFromSheet(int shop, int day, int k, int f, int n) {
        for (int i = 0; i < n; i++) {
            int v = sheets.cell(k, f + i);
            if (!isKnownSo(shop, day + i, v)) {
                rows.tell(shop, day + i, v < 0 ? NONE : v);
            }
        }
    }

    private static int marked(boolean[] marks) {
        int found = 0;
        for (int day = 0; day < marks.length; day++) {
            found += marks[day] ? 1 : 0;
        }
        return found;
    }

    /** Every telling of a figure, so that any day can ask what it knew; and the marks of days. */
    private static final class Rows {
        private int now;
        private int tellings;
        /** Of shop and day the number of its latest telling, and 1: 0 is a gap never told of. */
        private final int[] latest = new int[SHOPS * DAYS];
        /** Of a telling the one of the same shop and day ahead of it, and 1. */
        private final int[] earlier = new int[TELLINGS];
        private final int[] toldOn = new int[TELLINGS];
        private final int[] value = new int[TELLINGS];
        private final boolean[] feasts = new boolean[DAYS];
        private final boolean[] deeds = new boolean[DAYS];

        private int valueOn(int shop, int day, int on) {
            if (!isShop(shop) || !isDay(day)) {
                return NONE;
            }
            int at = latest[shop * DAYS + day];
            for (int left = tellings; at > 0 && left > 0; left--) {
                if (toldOn[at - 1] <= on) {
                    return value[at - 1];
                }
                at = earlier[at - 1];
            }
            return NONE;
        }

        private void tell(int shop, int day, int v) {
            if (!isShop(shop) || !isDay(day) || tellings >= TELLINGS) {
                return;
            }
            int place = shop * DAYS + day;
            earlier[tellings] = latest[place];
            toldOn[tellings] = now;
            value[tellings] = v;
            tellings++;
            latest[place] = tellings;
        }

        private boolean isFeast(int day) {
            return day >= 0 && day < DAYS && feasts[day];
        }

        private int gaps() {
            int found = 0;
            for (int shop = 0; shop < SHOPS; shop++) {
                for (int day = 0; day <= now; day++) {
                    found += valueOn(shop, day, now) == NONE ? 1 : 0;
                }
            }
            return found;
        }

        /**
         * The sum of squares is least where the squares of both sides' sums, each by its number of
         * figures, are together the greatest: that fraction is compared, by products.
         */
        private int changeOf(int shop, int t, int u) {
            long behindSum = 0;
            long behind = 0;
            for (int day = t; day <= u; day++) {
                int v = valueOn(shop, day, now);
                behindSum += v == NONE ? 0 : v;
                behind += v == NONE ? 0 : 1;
            }
            int best = NONE;
            long bestTop = 0;
            long bestBottom = 1;
            long aheadSum = 0;
            long ahead = 0;
            for (int day = t + 1; day <= u; day++) {
                int v = valueOn(shop, day - 1, now);
                if (v != NONE) {
                    aheadSum += v;
                    behindSum -= v;
                    ahead++;
                    behind--;
                }
                long top = aheadSum * aheadSum * behind + behindSum * behindSum * ahead;
                long bottom = ahead * behind;
                if (bottom > 0 && (best < 0 || top * bestBottom > bestTop * bottom)) {
                    best = day;
                    bestTop = top;
                    bestBottom = bottom;
                }
            }
            return best;
        }
    }

    /** The lines of a text: of each teller its kind and numbers. */
    private static final class Lines {
        private int size;
        private final int[] kind = new int[LINES];
        private final int[] first = new int[LINES];
        private final int[] second = new int[LINES];

        private void add(int itsKind, int itsFirst, int itsSecond) {
            if (size < LINES) {
                kind[size] = itsKind;
                first[size] = itsFirst;
                second[size] = itsSecond;
                size++;
            }
        }

        private void copy(Lines other) {
            size = 0;
            for (int i = 0; i < other.size; i++) {
                add(other.kind[i], other.first[i], other.second[i]);
            }
        }
    }

    /** The tape, and its reading: lines go to a list of their own, as a fault may come behind them. */
    private static final class Tape {
        private static final int END = 0, NAME = 1, NUMBER = 2, CLOSE = 3;
        private static final int[] LEAST = {1, 1, 0, 1, 1};
        private static final int[] MOST = {14, 20, 10, 8, 30};

        private final int[] bytes = new int[TAPE_BYTES];
        private int length;
        private final Lines lines = new Lines();
        private int found;
        private int token;
        private int start;
        private int stop;

        private int push(long v) {
            if (length + 8 > TAPE_BYTES) {
                return FULL;
            }
            for (int shift = 56; shift >= 0; shift -= 8) {
                bytes[length] = (int) (v >>> shift) & 255;
                length++;
            }
            return length;
        }

        private void readAll() {
            lines.size = 0;
            found = NO_FAULT;
            stop = 0;
            advance();
            for (int left = TAPE_BYTES; left > 0 && found == NO_FAULT && token != END; left--) {
                readLine();
            }
        }

        private void readLine() {
            int kind = token == NAME ? kindOfName() : NONE;
            if (kind < 0) {
                found = 2;
            } else if (lines.size == LINES) {
                found = 4;
            } else if (kind == JOINED && lines.size == 0) {
                found = 5;
            } else {
                int first = readNumber(kind);
                int second = kind == STEP ? readNumber(kind) : 0;
                expect(CLOSE);
                if (found == NO_FAULT) {
                    lines.add(kind, first, second);
                    advance();
                }
            }
        }

        private int readNumber(int kind) {
            expect(NUMBER);
            if (found != NO_FAULT) {
                return 0;
            }
            int v = 0;
            for (int i = start; i < stop; i++) {
                v = v * 10 + bytes[i] - '0';
            }
            if (v < LEAST[kind] || v > MOST[kind]) {
                found = 3;
            }
            return v;
        }

        private void expect(int wanted) {
            if (found == NO_FAULT) {
                advance();
            }
            if (found == NO_FAULT && token != wanted) {
                found = 2;
            }
        }

        /** The token behind the one before; where there is none, the place stays the fault's. */
        private void advance() {
            start = stop;
            while (start < length && bytes[start] == ' ') {
                start++;
            }
            stop = start;
            if (start >= length) {
                token = END;
            } else if (isLetter(bytes[start])) {
                token = NAME;
                while (stop < length && isLetter(bytes[stop])) {
                    stop++;
                }
            } else if (isDigit(bytes[start])) {
                token = NUMBER;
                while (stop < length && isDigit(bytes[stop])) {
                    stop++;
                }
                found = stop - start > 2 ? 1 : NO_FAULT;
            } else {
                token = CLOSE;
                stop++;
                found = bytes[start] == ';' ? NO_FAULT : 1;
            }
        }

        private static boolean isLetter(int sign) {
            return sign >= 'a' && sign <= 'z';
        }

        private static boolean isDigit(int sign) {
            return sign >= '0' && sign <= '9';
        }

        private int kindOfName() {
            if (isName("same")) {
                return SAME;
            }
            if (isName("mean")) {
                return MEAN;
            }
            if (isName("step")) {
                return STEP;
            }
            if (isName("like")) {
                return LIKE;
            }
            return isName("joined") ? JOINED : NONE;
        }

        private boolean isName(String name) {
            if (stop - start != name.length()) {
                return false;
            }
            for (int i = 0; i < name.length(); i++) {
                if (bytes[start + i] != name.charAt(i)) {
                    return false;
                }
            }
            return true;
        }
    }

    /** A shop's figures up to a day, as that day knew them: all that a teller may look at. */
    private static final class View {
        private final Rows rows;
        private final int[] figures = new int[DAYS];
        private int last;

        private View(Rows itsRows) {
            rows = itsRows;
        }

        private void open(int shop, int on) {
            last = Math.min(on, DAYS - 1);
            for (int day = 0; day <= last; day++) {
                figures[day] = rows.valueOn(shop, day, on);
            }
        }

        private int foretell(int kind, int first, int second, int h) {
            switch (kind) {
                case SAME:
                    return bySame(first, h);
                case MEAN:
                    return byMean(first);
                case STEP:
                    return byStep(first, second, h);
                case LIKE:
                    return byLike(first, h);
                default:
                    return NONE;
            }
        }

        private int bySame(int n, int h) {
            for (int day = last + h - n; day >= 0 && n > 0; day -= n) {
                if (day <= last && figures[day] != NONE) {
                    return figures[day];
                }
            }
            return NONE;
        }

        private int byMean(int n) {
            int sum = 0;
            int taken = 0;
            for (int day = last; day >= 0 && taken < n; day--) {
                if (figures[day] != NONE) {
                    sum += figures[day];
                    taken++;
                }
            }
            return taken < n || taken == 0 ? NONE : sum / taken;
        }

        private int byStep(int a, int b, int h) {
            long level = 0;
            long slope = 0;
            int seen = 0;
            for (int day = 0; day <= last; day++) {
                int v = figures[day];
                long was = level;
                level = levelAfter(a, v, level, slope, seen);
                slope = slopeAfter(b, v, level - was, slope, seen);
                seen += v == NONE ? 0 : 1;
            }
            return seen < 2 ? NONE : toldByStep(level, slope, h);
        }

        private int byLike(int n, int h) {
            boolean feast = rows.isFeast(last + h);
            int sum = 0;
            int taken = 0;
            for (int day = last + h - WEEK; day >= 0 && taken < n; day -= WEEK) {
                if (day <= last && figures[day] != NONE && rows.isFeast(day) == feast) {
                    sum += figures[day];
                    taken++;
                }
            }
            return taken == 0 ? NONE : sum / taken;
        }

        /** LEVEL behind a day with v, when so many figures came ahead of it. */
        private static long levelAfter(int a, int v, long level, long slope, int seen) {
            if (v == NONE) {
                return level + slope;
            }
            if (seen == 0) {
                return 100L * v;
            }
            return Math.floorDiv(a * 100L * v + (10 - a) * (level + slope), 10L);
        }

        private static long slopeAfter(int b, int v, long more, long slope, int seen) {
            if (v == NONE || seen == 0) {
                return slope;
            }
            return Math.floorDiv(b * more + (10 - b) * slope, 10L);
        }

        /** Gaps between figures can make SLOPE swing to some trillions: hence long. */
        private static int toldByStep(long level, long slope, int h) {
            long told = Math.floorDiv(level + h * slope, 100L);
            return (int) Math.max(0, Math.min(FIGURE, told));
        }
    }

    /** Tellers played as if then, for one shop and one AHEAD, and how far off they were. */
    private static final class Play {
        private final Rows rows;
        private final Lines tellers;
        private final View view;
        private int shop;
        private int h;
        /** What each teller told on each day; only what the latest run played is of its shop. */
        private final int[] told = new int[LINES * DAYS];
        /** Of a day the figure less what was told. */
        private final int[] differences = new int[DAYS];
        private int missed;
        private int missSum;
        private final int[] sorted = new int[DAYS];
        private int sortedSize;
        /** The differences of days to choose from, one behind the other. */
        private final int[] choice = new int[DAYS];
        private int deedCount;
        private int deedSum;

        private Play(Rows itsRows, Lines itsTellers) {
            rows = itsRows;
            tellers = itsTellers;
            view = new View(itsRows);
        }

        /** A joined teller looks back on the others' misses, so these are played from the first day on. */
        private void run(int itsShop, int k, int itsAhead, int from, int to) {
            shop = itsShop;
            h = itsAhead;
            if (k < 0 || k >= tellers.size) {
                return;
            }
            int first = Math.max(from, 0);
            int last = Math.min(to, DAYS - 1);
            if (tellers.kind[k] == JOINED) {
                playPlain(0, k, 0, last);
                for (int d = first; d <= last; d++) {
                    told[k * DAYS + d] = join(k, d);
                }
            } else {
                playPlain(k, k + 1, first, last);
            }
        }

        private void playPlain(int fromTeller, int toTeller, int from, int to) {
            for (int d = from; d <= to; d++) {
                view.open(shop, d);
                for (int k = fromTeller; k < toTeller; k++) {
                    int what = view.foretell(tellers.kind[k], tellers.first[k], tellers.second[k], h);
                    told[k * DAYS + d] = what;
                }
            }
        }

        private int join(int k, int d) {
            int sum = 0;
            int weights = 0;
            for (int i = 0; i < k; i++) {
                int what = told[i * DAYS + d];
                if (tellers.kind[i] != JOINED && what != NONE) {
                    int weight = weightOf(i, tellers.first[k], d);
                    sum += weight * what;
                    weights += weight;
                }
            }
            return weights == 0 ? NONE : sum / weights;
        }

        private int weightOf(int i, int n, int d) {
            int sum = 0;
            int days = 0;
            for (int day = d; day >= h && days < n; day--) {
                int what = toldBy(i, day - h);
                int came = what == NONE ? NONE : rows.valueOn(shop, day, d);
                if (came != NONE) {
                    sum += Math.abs(what - came);
                    days++;
                }
            }
            return 1000 / (1 + (days == 0 ? 1000 : sum / days));
        }

        private int toldBy(int k, int d) {
            boolean isThere = k >= 0 && k < LINES && d >= 0 && d < DAYS;
            return isThere ? told[k * DAYS + d] : NONE;
        }

        /** Plays a teller for days t to u, and takes the differences of these. */
        private void compare(int itsShop, int k, int itsAhead, int t, int u) {
            run(itsShop, k, itsAhead, t - itsAhead, Math.min(u, rows.now) - itsAhead);
            Arrays.fill(differences, ABSENT);
            missed = 0;
            missSum = 0;
            for (int day = Math.max(t, h); day <= u && day <= rows.now; day++) {
                int what = toldBy(k, day - h);
                int came = rows.valueOn(shop, day, rows.now);
                if (what != NONE && came != NONE) {
                    differences[day] = came - what;
                    missed++;
                    missSum += Math.abs(came - what);
                }
            }
        }

        private int missOf(int day) {
            if (!isDay(day) || differences[day] == ABSENT) {
                return NONE;
            }
            return Math.abs(differences[day]);
        }

        /** The first day of the greatest miss; below 0 there is none. */
        private int worstDay(int t, int u) {
            int worst = NONE;
            for (int day = t; day <= u; day++) {
                if (missOf(day) > missOf(worst)) {
                    worst = day;
                }
            }
            return worst;
        }

        private void sortMiss(int day) {
            int miss = missOf(day);
            if (miss != NONE) {
                sortIn(miss);
            }
        }

        private void sortIn(int v) {
            if (sortedSize >= DAYS) {
                return;
            }
            int at = sortedSize;
            while (at > 0 && sorted[at - 1] > v) {
                sorted[at] = sorted[at - 1];
                at--;
            }
            sorted[at] = v;
            sortedSize++;
        }

        /** The least that so many parts of the sorted ones do not go beyond; ABSENT: there are none. */
        private int leastOver(int part, int parts) {
            if (parts <= 0) {
                return ABSENT;
            }
            int needed = (part * sortedSize + parts - 1) / parts;
            return needed < 1 || needed > sortedSize ? ABSENT : sorted[needed - 1];
        }

        private int spanOf(int p) {
            int span = leastOver(p, 100);
            return span == ABSENT ? NONE : span;
        }

        /**
         * One more costs over for each of the odds that is not above the number, and spares under for
         * each that is. So the least cost is at the first of the odds, in order, at which under parts
         * of over and under are not above; beyond a bound it is at the bound.
         */
        private int leastCostly(int itsTold, int t, int u, int over, int under) {
            sortedSize = 0;
            for (int day = t; day <= u; day++) {
                if (differences[day] != ABSENT) {
                    sortIn(differences[day]);
                }
            }
            int more = leastOver(under, over + under);
            return Math.max(0, Math.min(FIGURE, itsTold + more));
        }

        /** The sum of costs over the odds, of a number that is so much more than what was told. */
        private int costOf(int more, int t, int u, int over, int under) {
            int cost = 0;
            for (int day = t; day <= u; day++) {
                if (differences[day] != ABSENT) {
                    int tooMany = more - differences[day];
                    cost += tooMany > 0 ? over * tooMany : under * -tooMany;
                }
            }
            return cost;
        }

        private void gather(int t, int u) {
            int taken = 0;
            deedCount = 0;
            deedSum = 0;
            for (int day = t; day <= u; day++) {
                if (differences[day] != ABSENT) {
                    choice[taken] = differences[day];
                    taken++;
                    deedCount += rows.deeds[day] ? 1 : 0;
                    deedSum += rows.deeds[day] ? differences[day] : 0;
                }
            }
        }

        /** In how many ways so many of the first size ones, from the i-th on, sum to at least the least. */
        private static int waysFrom(int[] ones, int size, int i, int many, int least) {
            if (many == 0) {
                return least <= 0 ? 1 : 0;
            }
            if (i < 0 || i >= CHOICE || i >= ones.length || size - i < many) {
                return 0;
            }
            return waysFrom(ones, size, i + 1, many - 1, least - ones[i])
                + waysFrom(ones, size, i + 1, many, least);
        }
    }

    /** All tellers of one kind, played side by side over the same days. */
    private static final class Grid {
        private final Rows rows;
        private final View view;
        private int size;
        private final int[] days = new int[GRID];
        private final int[] sums = new int[GRID];
        /** The figures that LEVEL and SLOPE of every step have followed, from day 0 on. */
        private final int[] followed = new int[DAYS];
        private int followedDays;
        private int seen;
        private final long[] level = new long[GRID];
        private final long[] slope = new long[GRID];

        private Grid(Rows itsRows) {
            rows = itsRows;
            view = new View(itsRows);
        }

        private void run(int shop, int kind, int h, int t, int u) {
            size = kind == STEP ? GRID : FITTED;
            Arrays.fill(days, 0);
            Arrays.fill(sums, 0);
            restart();
            for (int day = h; day <= u && day <= rows.now; day++) {
                view.open(shop, day - h);
                if (kind == STEP) {
                    follow();
                }
                int came = day < t ? NONE : rows.valueOn(shop, day, rows.now);
                if (came != NONE) {
                    score(kind, h, came);
                }
            }
        }

        private void restart() {
            followedDays = 0;
            seen = 0;
            Arrays.fill(level, 0);
            Arrays.fill(slope, 0);
        }

        /** Only where a past figure was told anew must the steps begin again. */
        private void follow() {
            boolean isAsFollowed = true;
            for (int day = 0; day < followedDays; day++) {
                isAsFollowed = isAsFollowed && followed[day] == view.figures[day];
            }
            if (!isAsFollowed) {
                restart();
            }
            for (int day = followedDays; day <= view.last; day++) {
                take(view.figures[day]);
                followed[day] = view.figures[day];
            }
            followedDays = view.last + 1;
        }

        private void take(int v) {
            for (int point = 0; point < GRID; point++) {
                long was = level[point];
                level[point] = View.levelAfter(point / STEPS, v, was, slope[point], seen);
                slope[point] = View.slopeAfter(point % STEPS, v, level[point] - was, slope[point], seen);
            }
            seen += v == NONE ? 0 : 1;
        }

        private void score(int kind, int h, int came) {
            for (int point = 0; point < size; point++) {
                int told = kind == STEP ? stepTold(point, h) : view.foretell(kind, point + 1, 0, h);
                if (told != NONE) {
                    days[point]++;
                    sums[point] += Math.abs(told - came);
                }
            }
        }

        private int stepTold(int point, int h) {
            return seen < 2 ? NONE : View.toldByStep(level[point], slope[point], h);
        }

        private int bestPoint() {
            int best = 0;
            for (int point = 1; point < size; point++) {
                boolean more = days[point] > days[best];
                boolean nearer = days[point] == days[best] && sums[point] < sums[best];
                if (more || nearer) {
                    best = point;
                }
            }
            return best;
        }
    }

    /** What was told, kept as it was told. */
    private static final class Notes {
        private int size;
        private final int[] shop = new int[NOTES];
        private final int[] teller = new int[NOTES];
        private final int[] on = new int[NOTES];
        private final int[] day = new int[NOTES];
        private final int[] told = new int[NOTES];
        private final int[] width = new int[NOTES];
        private final boolean[] acted = new boolean[NOTES];

        private int add(int itsShop, int k, int today, int itsDay, int what, int itsWidth) {
            if (size >= NOTES) {
                return FULL;
            }
            shop[size] = itsShop;
            teller[size] = k;
            on[size] = today;
            day[size] = itsDay;
            told[size] = what;
            width[size] = itsWidth;
            size++;
            return size - 1;
        }
    }

    /** Rows of cells; the faults are found by looking, ahead of what the machine would find. */
    private static final class Sheets {
        private static final int BYTES = 0, SHORTS = 1;

        /** Below 0 a sheet is nothing. */
        private final int[] lane = {-1, -1, -1, -1};
        private final int[] length = new int[SHEETS];
        private final int[] cells = new int[SHEETS * CELLS];
        private int torn;

        private void renew(int k, int itsLane, int n) {
            lane[k] = itsLane;
            length[k] = n;
            for (int i = 0; i < n; i++) {
                cells[k * CELLS + i] = 0;
            }
        }

        private int faultAt(int k, int asLane, int i) {
            if (lane[k] < 0) {
                return NULL;
            }
            if (lane[k] != asLane) {
                return CAST;
            }
            return i < 0 || i >= length[k] ? INDEX : NO_FAULT;
        }

        private void put(int k, int i, int v) {
            cells[k * CELLS + i] = lane[k] == BYTES ? (byte) v : lane[k] == SHORTS ? (short) v : v;
        }

        private int cell(int k, int i) {
            return cells[k * CELLS + i];
        }
    }
}
