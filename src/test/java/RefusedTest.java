import java.util.List;

/** Where two refusals would fit, the one that is due; and that what is refused changes nothing. */
final class RefusedTest {
    private static final int BAD = -1, STATE = -2, FULL = -3, NONE = -4;
    private static final int FAR_BAD = -100000, FAR_NONE = -100004;
    private static final int NOW = Scene.NOW;

    private static Due due = new Due("RefusedTest");
    private static List<Integer> busy = Scene.seen(Scene::busy, x -> 0);
    private static List<Integer> full = Scene.seen(Scene::full, x -> 0);

    private RefusedTest() {
    }

    public static void main(String[] args) {
        everyChangeIsSeen();
        badAheadOfNone();
        fullOnes();
        badAheadOfFull();
        stateOnes();
        noneOnes();
        sheetOnes();
        readOnes();
        textOnes();
        emptyOnes();
        due.end();
    }

    private static void refusedWhenBusy(String name, int answer, Scene.Call call) {
        due.is(name, call.on(Scene.busy()), answer);
        due.holds(name + " changes nothing", busy.equals(Scene.seen(Scene::busy, call)));
    }

    private static void refusedWhenFull(String name, int answer, Scene.Call call) {
        due.is(name, call.on(Scene.full()), answer);
        due.holds(name + " changes nothing", full.equals(Scene.seen(Scene::full, call)));
    }

    /** Else the tests of what changes nothing would show nothing. */
    private static void everyChangeIsSeen() {
        Scene.Call[] changes = {x -> x.now(NOW + 1), x -> x.figure(2, 20, 1), x -> x.figure(0, 20, NONE),
            x -> x.mark(0, 63, true), x -> x.mark(1, 63, false), x -> x.mark(0, 0, true), x -> x.feed(0),
            x -> x.end(5), x -> x.text(), x -> x.note(0, 0, 1, 1), x -> x.sheet(0, 2, 63),
            x -> x.sheet(1, 1, 4), x -> x.sheet(3, 2, 0), x -> x.lay(0, 63, 0), x -> x.lay(2, 0, 1),
            x -> x.lay(1, 3, 98), x -> x.read(3, 19, 0, 2, 1, 1), x -> x.read(1, 0, 0, 1, 0, 1)};
        for (int i = 0; i < changes.length; i++) {
            due.holds("change " + i + " is seen", !busy.equals(Scene.seen(Scene::busy, changes[i])));
        }
    }

    /** In an object in which nothing is known every one of these would be NONE. */
    private static void badAheadOfNone() {
        Scene.Call[] bad = {
            x -> x.tells(0, 5, 0, 1), x -> x.tells(4, 0, 0, 1), x -> x.tells(0, 0, 1, 1), x -> x.tells(0, 0, 0, 15),
            x -> x.weight(0, 4, 4, 0, 1), x -> x.weight(0, 3, 0, 0, 1), x -> x.weight(0, 4, 0, 1, 1),
            x -> x.weight(0, 4, 0, 0, 0), x -> x.weight(4, 4, 0, 0, 1),
            x -> x.miss(0, 5, 1, 0), x -> x.miss(0, 0, 0, 0), x -> x.miss(0, 0, 15, 0), x -> x.miss(0, 0, 1, 64),
            x -> x.misses(0, 0, 1, 1, 0, 2), x -> x.misses(0, 0, 1, 0, 64, 3), x -> x.misses(4, 0, 1, 0, 63, 2),
            x -> x.best(4, 1, 0, 63), x -> x.best(0, 15, 0, 63), x -> x.best(0, 1, 1, 0),
            x -> x.fit(0, 4, 1, 0, 63, 0), x -> x.fit(0, 0, 1, 0, 63, 3), x -> x.fit(0, 0, 1, 63, 62, 0),
            x -> x.span(0, 0, 1, 0, 63, 0), x -> x.span(0, 0, 1, 0, 63, 101), x -> x.span(0, 0, 1, 1, 0, 50),
            x -> x.number(0, 0, 1, 0, 63, 0, 1, 0), x -> x.number(0, 0, 1, 0, 63, 1, 100, 0),
            x -> x.number(0, 0, 1, 0, 63, 1, 1, 2), x -> x.number(0, 0, 1, 1, 0, 1, 1, 0),
            x -> x.dealt(0, 0, 1, 0, 63, 4), x -> x.dealt(0, 0, 1, 1, 0, 0), x -> x.dealt(0, 5, 1, 0, 63, 0),
            x -> x.change(4, 0, 63), x -> x.change(0, 1, 0), x -> x.change(0, 0, 64),
            x -> x.note(0, 0, 1, 1000), x -> x.note(0, 5, 1, 1), x -> x.note(0, 0, 0, 1)};
        for (int i = 0; i < bad.length; i++) {
            due.is("BAD ahead of NONE " + i, bad[i].on(told()), BAD);
        }
        due.is("worth: BAD ahead of NONE", told().worth(0, 0, 1, 1, 0), FAR_BAD);
        due.is("worth: BAD ahead of NONE", told().worth(0, 5, 1, 0, 1), FAR_BAD);
        due.is("agree: BAD ahead of NONE", told().agree(1, 0, 2, 4), FAR_BAD);
        due.is("agree: BAD ahead of NONE", told().agree(1, 0, 10000, 0), FAR_BAD);
        due.is("agree: BAD ahead of what agrees already", told().agree(1, 0, 1, -1), FAR_BAD);
    }

    private static NextFigures told() {
        NextFigures x = new NextFigures();
        Due.tell(x, "same 1;mean 1;step 1 1;like 1;joined 1;");
        return x;
    }

    private static void fullOnes() {
        due.is("full: tellings", Scene.full().count(1), 200);
        due.is("full: notes", Scene.full().count(5), 24);
        due.is("full: bytes", Scene.full().count(7), 120);
        refusedWhenFull("figure, full", -7, x -> x.figure(0, 0, 5));
        refusedWhenFull("figure, full, known so already", -7, x -> x.figure(3, 0, 8));
        refusedWhenFull("figure, full, a gap", -7, x -> x.figure(3, 0, NONE));
        refusedWhenFull("feed, full", FULL, x -> x.feed(-1));
        refusedWhenFull("note, full", FULL, x -> x.note(0, 0, 1, 1));
        refusedWhenFull("note, full ahead of NONE", FULL, x -> x.note(3, 5, 1, 1));
        refusedWhenFull("read, full", FULL, x -> x.read(3, 1, 0, 2, 0, 1));
        refusedWhenFull("read, full, a day known so already ahead of it", FULL, x -> x.read(3, 0, 0, 2, 1, 2));
    }

    private static void badAheadOfFull() {
        refusedWhenFull("figure: BAD ahead of FULL, shop", -5, x -> x.figure(4, 0, 5));
        refusedWhenFull("figure: BAD ahead of FULL, day", -5, x -> x.figure(0, Scene.FULL_NOW + 1, 5));
        refusedWhenFull("figure: BAD ahead of FULL, v", -5, x -> x.figure(0, 0, 1000));
        refusedWhenFull("note: BAD ahead of FULL, shop", BAD, x -> x.note(4, 0, 1, 1));
        refusedWhenFull("note: BAD ahead of FULL, teller", BAD, x -> x.note(0, 6, 1, 1));
        refusedWhenFull("note: BAD ahead of FULL, ahead", BAD, x -> x.note(0, 0, 15, 1));
        refusedWhenFull("note: BAD ahead of FULL, width", BAD, x -> x.note(0, 0, 1, -1));
        refusedWhenFull("read: BAD ahead of FULL, shop", BAD, x -> x.read(4, 1, 0, 2, 0, 1));
        refusedWhenFull("read: BAD ahead of FULL, days", BAD, x -> x.read(3, Scene.FULL_NOW, 0, 2, 0, 2));
        refusedWhenFull("read: BAD ahead of FULL, n", BAD, x -> x.read(3, 1, 0, 2, 0, 65));
    }

    private static void stateOnes() {
        refusedWhenBusy("acted, it was already", STATE, x -> x.acted(1));
        refusedWhenBusy("acted, it came", STATE, x -> x.acted(0));
        refusedWhenBusy("acted, BAD ahead of STATE", BAD, x -> x.acted(2));
        // it was acted on, and then it came
        NextFigures x = Scene.busy();
        x.now(34);
        x.figure(0, 34, 1);
        due.is("acted, both", x.acted(1), STATE);
        for (int what = 0; what < 4; what++) {
            int asked = what;
            refusedWhenBusy("dealt, 19 days with a miss", STATE, y -> y.dealt(0, 0, 1, 0, 63, asked));
        }
        refusedWhenBusy("dealt, BAD ahead of STATE", BAD, y -> y.dealt(0, 0, 1, 0, 63, 4));
        refusedWhenBusy("dealt, BAD ahead of STATE", BAD, y -> y.dealt(0, 0, 1, 0, 64, 2));
        // of the deeds none is left
        x.mark(1, 7, false);
        x.mark(1, 12, false);
        due.is("dealt, STATE ahead of NONE", x.dealt(0, 0, 1, 0, 33, 0), STATE);
    }

    private static void noneOnes() {
        refusedWhenBusy("note, nothing is told", NONE, x -> x.note(2, 0, 1, 1));
        refusedWhenBusy("tells, nothing is told", NONE, x -> x.tells(2, 0, NOW, 1));
        refusedWhenBusy("weight, nothing is told", NONE, x -> x.weight(2, 4, 0, NOW, 1));
        refusedWhenBusy("miss, a gap", NONE, x -> x.miss(0, 0, 1, 15));
        refusedWhenBusy("misses, none", NONE, x -> x.misses(2, 0, 1, 0, 63, 2));
        refusedWhenBusy("best, none", NONE, x -> x.best(2, 1, 0, 63));
        refusedWhenBusy("fit, none", NONE, x -> x.fit(2, 2, 1, 0, 63, 0));
        refusedWhenBusy("span, none", NONE, x -> x.span(2, 0, 1, 0, 63, 1));
        refusedWhenBusy("number, nothing is told", NONE, x -> x.number(2, 0, 1, 0, 63, 1, 1, 0));
        refusedWhenBusy("number, no odds", NONE, x -> x.number(0, 0, 1, 0, 0, 1, 1, 0));
        refusedWhenBusy("worth, no deed", FAR_NONE, x -> x.worth(0, 0, 1, 8, 11));
        refusedWhenBusy("dealt, no deed", NONE, x -> x.dealt(0, 0, 1, 8, 11, 0));
        refusedWhenBusy("change, none", NONE, x -> x.change(2, 0, 63));
        refusedWhenBusy("agree, no weights", FAR_NONE, x -> x.agree(1, 0, 2, 0));
    }

    private static void sheetOnes() {
        refusedWhenBusy("sheet: BAD ahead of SIZE, k", BAD, x -> x.sheet(4, 0, -1));
        refusedWhenBusy("sheet: BAD ahead of SIZE, lane", BAD, x -> x.sheet(0, 3, -1));
        refusedWhenBusy("sheet, below 0", -14, x -> x.sheet(0, 0, -1));
        refusedWhenBusy("sheet, above 64", BAD, x -> x.sheet(0, 0, 65));
        refusedWhenBusy("lay: BAD ahead of INDEX", BAD, x -> x.lay(-1, 64, 0));
        refusedWhenBusy("lay: NULL ahead of INDEX", -11, x -> x.lay(3, -1, 0));
        refusedWhenBusy("lay, index", -12, x -> x.lay(0, 64, 0));
    }

    private static void readOnes() {
        refusedWhenBusy("read, a cell above 999", -20, x -> x.read(0, 0, 0, 2, 0, 1));
        refusedWhenBusy("read, BAD ahead of a cell above 999, shop", BAD, x -> x.read(4, 0, 0, 2, 0, 1));
        refusedWhenBusy("read, BAD ahead of a cell above 999, days", BAD, x -> x.read(0, NOW, 0, 2, 0, 2));
        refusedWhenBusy("read, BAD ahead of NULL", BAD, x -> x.read(0, NOW + 1, 3, 2, 0, 1));
        refusedWhenBusy("read, BAD ahead of CAST", BAD, x -> x.read(0, NOW + 1, 0, 1, 0, 1));
        refusedWhenBusy("read, BAD ahead of INDEX", BAD, x -> x.read(0, NOW + 1, 0, 2, 64, 1));
        refusedWhenBusy("read, cells ahead of the one above 999 are not told either", -21, x -> {
            x.lay(0, 63, 1000);
            int got = x.read(0, 0, 0, 2, 62, 3);
            x.lay(0, 63, -7);
            return got;
        });
        // cell 0 is above 999; the machine refuses ahead of it
        NextFigures x = Scene.busy();
        due.is("read, INDEX ahead of a cell above 999", x.read(0, 0, 0, 2, -1, 2), 0);
        due.is("read, INDEX ahead of a cell above 999", x.torn(), 2);
        due.is("read, CAST ahead of a cell above 999", x.read(0, 0, 0, 1, 0, 1), 0);
        due.is("read, CAST ahead of a cell above 999", x.torn(), 3);
        // of two cells above 999 the first
        x.lay(0, 3, 1000);
        due.is("read, of two cells above 999 the first", x.read(0, 0, 0, 2, 1, 9), -22);
        readWhenFull();
    }

    private static void readWhenFull() {
        refusedWhenFull("read, a cell above 999 where it is full", -20, x -> x.read(0, 0, 0, 2, 63, 1));
        refusedWhenFull("read, full ahead of a cell above 999", FULL, x -> x.read(0, 0, 0, 2, 62, 2));
        NextFigures x = Scene.full();
        x.read(0, 0, 3, 2, 0, 1);
        due.is("full: torn", x.torn(), 1);
        due.is("read, full, all known so already", x.read(0, 0, 0, 2, 1, 32), 0);
        due.is("read, full, all known so already", x.torn(), 0);
        due.is("read, full, INDEX ahead of any telling", x.read(3, 1, 0, 2, 64, 1), 0);
        due.is("read, full, INDEX ahead of any telling", x.torn(), 2);
        due.is("read, full, no days", x.read(3, 1, 0, 2, 0, 0), 0);
        due.is("read, full, no days", x.torn(), 0);
        due.is("tellings", x.count(1), 200);
    }

    /** A text that is refused leaves the tellers; the tape is empty then, and the fault is its own. */
    private static void textOnes() {
        String[] texts = {"?", "same", "same 0;", "joined 1;", "same 1;same 1;same 1;same 1;same 1;same 1;same 1;"};
        int[] answers = {-10, -14, -15, -10, -52};
        int[] faults = {1, 2, 3, 5, 4};
        for (int i = 0; i < texts.length; i++) {
            String text = texts[i];
            Scene.Maker emptied = () -> {
                NextFigures x = Scene.busy();
                x.end(0);
                return x;
            };
            List<Integer> tellersStay = Scene.seen(() -> {
                NextFigures x = emptied.make();
                Due.tell(x, text);
                return x;
            }, x -> 0);
            List<Integer> was = Scene.seen(emptied, x -> 0);
            NextFigures x = emptied.make();
            due.is("text " + text, Due.tell(x, text), answers[i]);
            due.is("fault of " + text, x.fault(), faults[i]);
            due.is("the tape behind " + text, x.count(7), 0);
            // the tenth that is seen is fault()
            tellersStay.set(9, was.get(9));
            due.holds("text " + text + " changes nothing but the tape and the fault", tellersStay.equals(was));
        }
    }

    /** Nothing was told yet, nothing was noted, no sheet is there. */
    private static void emptyOnes() {
        NextFigures x = new NextFigures();
        due.is("empty: teller", x.teller(0, 0), BAD);
        due.is("empty: tells", x.tells(0, 0, 0, 1), BAD);
        due.is("empty: weight", x.weight(0, 1, 0, 0, 1), BAD);
        due.is("empty: miss", x.miss(0, 0, 1, 1), BAD);
        due.is("empty: misses", x.misses(0, 0, 1, 0, 63, 0), BAD);
        due.is("empty: best", x.best(0, 1, 0, 63), NONE);
        due.is("empty: fit", x.fit(0, 2, 1, 0, 63, 1), NONE);
        due.is("empty: span", x.span(0, 0, 1, 0, 63, 1), BAD);
        due.is("empty: hold", x.hold(0, 0, 1, 0, 63, 1), BAD);
        due.is("empty: going", x.going(0, 0, 1, 0, 63, 1, 0), BAD);
        due.is("empty: number", x.number(0, 0, 1, 0, 63, 1, 1, 0), BAD);
        due.is("empty: worth", x.worth(0, 0, 1, 0, 63), FAR_BAD);
        due.is("empty: dealt", x.dealt(0, 0, 1, 0, 63, 2), BAD);
        due.is("empty: change", x.change(0, 0, 63), NONE);
        due.is("empty: note", x.note(0, 0, 1, 1), BAD);
        due.is("empty: noteOf", x.noteOf(0, 0), BAD);
        due.is("empty: acted", x.acted(0), BAD);
        for (int what = 0; what < 4; what++) {
            due.is("empty: notes", x.notes(what), 0);
        }
        due.is("empty: end", x.end(0), 0);
        due.is("empty: end", x.end(1), BAD);
        due.is("empty: text", x.text(), 0);
        due.is("empty: fault", x.fault(), 0);
        due.is("empty: torn", x.torn(), 0);
        due.is("empty: lay", x.lay(0, 0, 0), -11);
        due.is("empty: read", x.read(0, 0, 0, 0, 0, 1), 0);
        due.is("empty: torn of a read", x.torn(), 1);
    }
}
