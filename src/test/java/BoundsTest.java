import java.util.List;

/**
 * Of each number that a call takes: the last that is still taken and the first that is refused, on both
 * sides; and that the refused one changes nothing, nor does an asking that is answered.
 */
final class BoundsTest {
    private static final int BAD = -1, NONE = -4;
    private static final int FAR_BAD = -100000;
    private static final int NOW = Scene.NOW;

    /** A call with one number left open. */
    private interface Open {
        int on(NextFigures x, int v);
    }

    private static Due due = new Due("BoundsTest");
    private static List<Integer> before = Scene.seen(Scene::busy, x -> 0);

    private BoundsTest() {
    }

    public static void main(String[] args) {
        rows();
        tellers();
        tellsAndWeight();
        miss();
        misses();
        bestAndFit();
        span();
        hold();
        going();
        agree();
        number();
        worth();
        dealt();
        change();
        notes();
        sheets();
        read();
        due.end();
    }

    private static void range(String name, int least, int most, int refusal, Open call) {
        taken(name, call, least, refusal);
        taken(name, call, most, refusal);
        refused(name, call, least - 1, refusal);
        refused(name, call, most + 1, refusal);
        refused(name, call, Integer.MIN_VALUE, refusal);
        refused(name, call, Integer.MAX_VALUE, refusal);
    }

    /** Besides, asking alone must leave all as it was. */
    private static void asks(String name, int least, int most, int refusal, Open call) {
        range(name, least, most, refusal, call);
        same(name + " asked at " + least, x -> call.on(x, least));
        same(name + " asked at " + most, x -> call.on(x, most));
    }

    private static void taken(String name, Open call, int v, int refusal) {
        due.holds(name + ": " + v + " is taken", call.on(Scene.busy(), v) != refusal);
    }

    private static void refused(String name, Open call, int v, int refusal) {
        due.is(name + ": " + v + " is refused", call.on(Scene.busy(), v), refusal);
        same(name + " refused at " + v, x -> call.on(x, v));
    }

    private static void same(String name, Scene.Call call) {
        due.holds(name + " changes nothing", before.equals(Scene.seen(Scene::busy, call)));
    }

    private static void rows() {
        range("now", NOW, 63, BAD, (x, v) -> x.now(v));
        range("figure: shop", 0, 3, -5, (x, v) -> x.figure(v, 0, 1));
        range("figure: day", 0, NOW, -5, (x, v) -> x.figure(0, v, 1));
        range("figure: v", 0, 999, -5, (x, v) -> x.figure(0, 0, v));
        range("figure: a gap alone is below 0", NONE, NONE, -5, (x, v) -> x.figure(0, 0, v));
        asks("known: shop", 0, 3, BAD, (x, v) -> x.known(v, 0, 0));
        asks("known: day", 0, 63, BAD, (x, v) -> x.known(0, v, 0));
        asks("known: on", 0, 63, BAD, (x, v) -> x.known(0, 0, v));
        range("mark: which", 0, 1, BAD, (x, v) -> x.mark(v, 0, true));
        range("mark: day, feast", 0, 63, BAD, (x, v) -> x.mark(0, v, true));
        range("mark: day, deed", 0, 63, BAD, (x, v) -> x.mark(1, v, false));
        asks("count", 0, 8, BAD, (x, v) -> x.count(v));
    }

    private static void tellers() {
        range("end", 0, 6, BAD, (x, v) -> x.end(v));
        same("end, all that it has", x -> x.end(6));
        same("fault asked", x -> x.fault());
        asks("teller: k", 0, 5, BAD, (x, v) -> x.teller(v, 0));
        asks("teller: what", 0, 2, BAD, (x, v) -> x.teller(2, v));
    }

    private static void tellsAndWeight() {
        asks("tells: shop", 0, 3, BAD, (x, v) -> x.tells(v, 0, NOW, 1));
        asks("tells: k", 0, 5, BAD, (x, v) -> x.tells(0, v, NOW, 1));
        asks("tells: d", 0, NOW, BAD, (x, v) -> x.tells(0, 0, v, 1));
        asks("tells: h", 1, 14, BAD, (x, v) -> x.tells(0, 0, NOW, v));
        asks("weight: shop", 0, 3, BAD, (x, v) -> x.weight(v, 4, 0, NOW, 1));
        asks("weight: k is joined", 4, 4, BAD, (x, v) -> x.weight(0, v, 0, NOW, 1));
        asks("weight: i is ahead of it", 0, 3, BAD, (x, v) -> x.weight(0, 4, v, NOW, 1));
        asks("weight: d", 0, NOW, BAD, (x, v) -> x.weight(0, 4, 0, v, 1));
        asks("weight: h", 1, 14, BAD, (x, v) -> x.weight(0, 4, 0, NOW, v));
        for (int wrong : new int[] {5, 6}) {
            refused("weight: k", (x, v) -> x.weight(0, v, 0, NOW, 1), wrong, BAD);
            refused("weight: i", (x, v) -> x.weight(0, 4, v, NOW, 1), wrong, BAD);
        }
    }

    private static void miss() {
        asks("miss: shop", 0, 3, BAD, (x, v) -> x.miss(v, 0, 1, 5));
        asks("miss: k", 0, 5, BAD, (x, v) -> x.miss(0, v, 1, 5));
        asks("miss: h", 1, 14, BAD, (x, v) -> x.miss(0, 0, v, 16));
        asks("miss: t", 0, 63, BAD, (x, v) -> x.miss(0, 0, 1, v));
    }

    private static void misses() {
        asks("misses: shop", 0, 3, BAD, (x, v) -> x.misses(v, 0, 1, 0, 63, 0));
        asks("misses: k", 0, 5, BAD, (x, v) -> x.misses(0, v, 1, 0, 63, 0));
        asks("misses: h", 1, 14, BAD, (x, v) -> x.misses(0, 0, v, 0, 63, 0));
        asks("misses: t", 0, 12, BAD, (x, v) -> x.misses(0, 0, 1, v, 12, 1));
        asks("misses: t up to the last day", 0, 63, BAD, (x, v) -> x.misses(0, 0, 1, v, 63, 2));
        asks("misses: u", 12, 63, BAD, (x, v) -> x.misses(0, 0, 1, 12, v, 3));
        asks("misses: what", 0, 3, BAD, (x, v) -> x.misses(0, 0, 1, 0, 63, v));
    }

    private static void bestAndFit() {
        asks("best: shop", 0, 3, BAD, (x, v) -> x.best(v, 1, 0, 63));
        asks("best: h", 1, 14, BAD, (x, v) -> x.best(0, v, 0, 63));
        asks("best: t", 0, 12, BAD, (x, v) -> x.best(0, 1, v, 12));
        asks("best: t up to the last day", 0, 63, BAD, (x, v) -> x.best(0, 1, v, 63));
        asks("best: u", 12, 63, BAD, (x, v) -> x.best(0, 1, 12, v));
        asks("fit: shop", 0, 3, BAD, (x, v) -> x.fit(v, 0, 1, 0, 63, 0));
        asks("fit: kind", 0, 3, BAD, (x, v) -> x.fit(0, v, 1, 0, 63, 0));
        asks("fit: h", 1, 14, BAD, (x, v) -> x.fit(0, 2, v, 0, 63, 0));
        asks("fit: t", 0, 12, BAD, (x, v) -> x.fit(0, 1, 1, v, 12, 0));
        asks("fit: t up to the last day", 0, 63, BAD, (x, v) -> x.fit(0, 1, 1, v, 63, 0));
        asks("fit: u", 12, 63, BAD, (x, v) -> x.fit(0, 3, 1, 12, v, 0));
        asks("fit: what", 0, 2, BAD, (x, v) -> x.fit(0, 0, 1, 0, 63, v));
    }

    private static void span() {
        asks("span: shop", 0, 3, BAD, (x, v) -> x.span(v, 0, 1, 0, 63, 50));
        asks("span: k", 0, 5, BAD, (x, v) -> x.span(0, v, 1, 0, 63, 50));
        asks("span: h", 1, 14, BAD, (x, v) -> x.span(0, 0, v, 0, 63, 50));
        asks("span: t", 0, 12, BAD, (x, v) -> x.span(0, 0, 1, v, 12, 50));
        asks("span: t up to the last day", 0, 63, BAD, (x, v) -> x.span(0, 0, 1, v, 63, 50));
        asks("span: u", 12, 63, BAD, (x, v) -> x.span(0, 0, 1, 12, v, 50));
        asks("span: p", 1, 100, BAD, (x, v) -> x.span(0, 0, 1, 0, 63, v));
    }

    private static void hold() {
        asks("hold: shop", 0, 3, BAD, (x, v) -> x.hold(v, 0, 1, 0, 63, 5));
        asks("hold: k", 0, 5, BAD, (x, v) -> x.hold(0, v, 1, 0, 63, 5));
        asks("hold: h", 1, 14, BAD, (x, v) -> x.hold(0, 0, v, 0, 63, 5));
        asks("hold: t", 0, 12, BAD, (x, v) -> x.hold(0, 0, 1, v, 12, 5));
        asks("hold: t up to the last day", 0, 63, BAD, (x, v) -> x.hold(0, 0, 1, v, 63, 5));
        asks("hold: u", 12, 63, BAD, (x, v) -> x.hold(0, 0, 1, 12, v, 5));
        asks("hold: w", 0, 999, BAD, (x, v) -> x.hold(0, 0, 1, 0, 63, v));
    }

    private static void going() {
        asks("going: shop", 0, 3, BAD, (x, v) -> x.going(v, 0, 1, 0, 63, 50, 0));
        asks("going: k", 0, 5, BAD, (x, v) -> x.going(0, v, 1, 0, 63, 50, 0));
        asks("going: h", 1, 14, BAD, (x, v) -> x.going(0, 0, v, 0, 63, 50, 0));
        asks("going: t", 0, 12, BAD, (x, v) -> x.going(0, 0, 1, v, 12, 50, 0));
        asks("going: t up to the last day", 0, 63, BAD, (x, v) -> x.going(0, 0, 1, v, 63, 50, 0));
        asks("going: u", 12, 63, BAD, (x, v) -> x.going(0, 0, 1, 12, v, 50, 1));
        asks("going: p", 1, 100, BAD, (x, v) -> x.going(0, 0, 1, 0, 63, v, 1));
        asks("going: what", 0, 1, BAD, (x, v) -> x.going(0, 0, 1, 0, 63, 50, v));
    }

    private static void agree() {
        asks("agree: weights", 0, 99_999_999, FAR_BAD, (x, v) -> x.agree(5, v, 5, 0));
        asks("agree: whole", 0, 9999, FAR_BAD, (x, v) -> x.agree(5, 1, v, 0));
        asks("agree: shop", 0, 3, FAR_BAD, (x, v) -> x.agree(5, 1, 9, v));
        for (long numbers : new long[] {0, 999_999_999_999L}) {
            taken("agree: numbers " + numbers, (x, v) -> x.agree(numbers, 1, 9, v), 0, FAR_BAD);
        }
        // the last two would be taken if an int had cut them
        for (long numbers : new long[] {-1, 1_000_000_000_000L, Long.MIN_VALUE, Long.MAX_VALUE, -1L << 32, 1L << 40}) {
            refused("agree: numbers " + numbers, (x, v) -> x.agree(numbers, 1, 9, v), 0, FAR_BAD);
        }
    }

    private static void number() {
        asks("number: shop", 0, 3, BAD, (x, v) -> x.number(v, 0, 1, 0, 63, 1, 1, 0));
        asks("number: k", 0, 5, BAD, (x, v) -> x.number(0, v, 1, 0, 63, 1, 1, 0));
        asks("number: h", 1, 14, BAD, (x, v) -> x.number(0, 0, v, 0, 63, 1, 1, 0));
        asks("number: t", 0, 12, BAD, (x, v) -> x.number(0, 0, 1, v, 12, 1, 1, 0));
        asks("number: t up to the last day", 0, 63, BAD, (x, v) -> x.number(0, 0, 1, v, 63, 1, 1, 0));
        asks("number: u", 12, 63, BAD, (x, v) -> x.number(0, 0, 1, 12, v, 1, 1, 1));
        asks("number: over", 1, 99, BAD, (x, v) -> x.number(0, 0, 1, 0, 63, v, 1, 0));
        asks("number: under", 1, 99, BAD, (x, v) -> x.number(0, 0, 1, 0, 63, 1, v, 0));
        asks("number: what", 0, 1, BAD, (x, v) -> x.number(0, 0, 1, 0, 63, 1, 1, v));
    }

    private static void worth() {
        asks("worth: shop", 0, 3, FAR_BAD, (x, v) -> x.worth(v, 0, 1, 0, 63));
        asks("worth: k", 0, 5, FAR_BAD, (x, v) -> x.worth(0, v, 1, 0, 63));
        asks("worth: h", 1, 14, FAR_BAD, (x, v) -> x.worth(0, 0, v, 0, 63));
        asks("worth: t", 0, 12, FAR_BAD, (x, v) -> x.worth(0, 0, 1, v, 12));
        asks("worth: t up to the last day", 0, 63, FAR_BAD, (x, v) -> x.worth(0, 0, 1, v, 63));
        asks("worth: u", 12, 63, FAR_BAD, (x, v) -> x.worth(0, 0, 1, 12, v));
    }

    private static void dealt() {
        asks("dealt: shop", 0, 3, BAD, (x, v) -> x.dealt(v, 0, 1, 0, 15, 0));
        asks("dealt: k", 0, 5, BAD, (x, v) -> x.dealt(0, v, 1, 0, 15, 0));
        asks("dealt: h", 1, 14, BAD, (x, v) -> x.dealt(0, 0, v, 0, 15, 0));
        asks("dealt: t", 0, 12, BAD, (x, v) -> x.dealt(0, 0, 1, v, 12, 0));
        asks("dealt: t up to the last day", 0, 63, BAD, (x, v) -> x.dealt(0, 0, 1, v, 63, 0));
        asks("dealt: u", 12, 63, BAD, (x, v) -> x.dealt(0, 0, 1, 12, v, 1));
        asks("dealt: what", 0, 3, BAD, (x, v) -> x.dealt(0, 0, 1, 0, 15, v));
    }

    private static void change() {
        asks("change: shop", 0, 3, BAD, (x, v) -> x.change(v, 0, 63));
        asks("change: t", 0, 12, BAD, (x, v) -> x.change(0, v, 12));
        asks("change: t up to the last day", 0, 63, BAD, (x, v) -> x.change(0, v, 63));
        asks("change: u", 12, 63, BAD, (x, v) -> x.change(0, 12, v));
    }

    private static void notes() {
        range("note: shop", 0, 3, BAD, (x, v) -> x.note(v, 0, 1, 1));
        range("note: k", 0, 5, BAD, (x, v) -> x.note(0, v, 1, 1));
        range("note: h", 1, 14, BAD, (x, v) -> x.note(0, 0, v, 1));
        range("note: width", 0, 999, BAD, (x, v) -> x.note(0, 0, 1, v));
        asks("noteOf: i", 0, 1, BAD, (x, v) -> x.noteOf(v, 0));
        asks("noteOf: what", 0, 8, BAD, (x, v) -> x.noteOf(0, v));
        range("acted", 0, 1, BAD, (x, v) -> x.acted(v));
        asks("notes", 0, 3, BAD, (x, v) -> x.notes(v));
    }

    private static void sheets() {
        range("sheet: k", 0, 3, BAD, (x, v) -> x.sheet(v, 0, 1));
        range("sheet: lane", 0, 2, BAD, (x, v) -> x.sheet(0, v, 1));
        taken("sheet: n", (x, v) -> x.sheet(0, 0, v), 0, -14);
        taken("sheet: n", (x, v) -> x.sheet(0, 0, v), 64, BAD);
        for (int above : new int[] {65, Integer.MAX_VALUE}) {
            refused("sheet: n", (x, v) -> x.sheet(0, 0, v), above, BAD);
        }
        for (int below : new int[] {-1, Integer.MIN_VALUE}) {
            refused("sheet: n", (x, v) -> x.sheet(0, 0, v), below, -14);
        }
        range("lay: k", 0, 3, BAD, (x, v) -> x.lay(v, 0, 1));
        range("lay: i of 64", 0, 63, -12, (x, v) -> x.lay(0, v, 1));
        range("lay: i of 4", 0, 3, -12, (x, v) -> x.lay(1, v, 1));
        for (int i : new int[] {0, -1, 64}) {
            refused("lay: i of nothing", (x, v) -> x.lay(3, v, 1), i, -11);
        }
        same("torn asked", x -> x.torn());
    }

    private static void read() {
        range("read: shop", 0, 3, BAD, (x, v) -> x.read(v, 0, 0, 2, 1, 1));
        range("read: one day", 0, NOW, BAD, (x, v) -> x.read(0, v, 0, 2, 1, 1));
        range("read: the first of three days", 0, NOW - 2, BAD, (x, v) -> x.read(0, v, 0, 2, 1, 3));
        range("read: k", 0, 3, BAD, (x, v) -> x.read(0, 0, v, 2, 1, 1));
        range("read: lane", 0, 2, BAD, (x, v) -> x.read(0, 0, 0, v, 1, 1));
        range("read: n, as many days as there were", 0, NOW + 1, BAD, (x, v) -> x.read(0, 0, 0, 2, 1, v));
        // on the last day there are days enough for all that n can be
        Open onLast = (x, v) -> {
            x.now(63);
            return x.read(0, 0, 0, 2, 1, v);
        };
        taken("read: n on the last day", onLast, 0, BAD);
        taken("read: n on the last day", onLast, 64, BAD);
        due.is("read: n on the last day", onLast.on(Scene.busy(), 65), BAD);
        due.is("read: n on the last day", onLast.on(Scene.busy(), -1), BAD);
    }
}
