/** One method a promise: ordinary inputs, the edges that the document names, wrong inputs. */
final class PromisesTest {
    private static final int BAD = -1, STATE = -2, FULL = -3, NONE = -4;
    private static final int FAR_BAD = -100000, FAR_NONE = -100004;

    private static Due due = new Due("PromisesTest");

    private PromisesTest() {
    }

    public static void main(String[] args) {
        newObject();
        now();
        figure();
        known();
        mark();
        feed();
        end();
        text();
        textFaults();
        fault();
        teller();
        tellsSame();
        tellsMean();
        tellsStep();
        tellsLike();
        tellsJoined();
        tellsWrong();
        weight();
        miss();
        misses();
        best();
        fit();
        span();
        hold();
        going();
        agree();
        number();
        worth();
        dealt();
        change();
        note();
        noteOf();
        acted();
        notes();
        sheet();
        lay();
        read();
        readRefused();
        torn();
        count();
        due.end();
    }

    private static void newObject() {
        NextFigures x = new NextFigures();
        int[] counts = {0, 0, 0, 0, 0, 0, 4, 0, NONE};
        for (int what = 0; what < counts.length; what++) {
            due.is("new: count " + what, x.count(what), counts[what]);
        }
        for (int shop = 0; shop < 4; shop++) {
            for (int day = 0; day < 64; day++) {
                due.is("new: known", x.known(shop, day, 63), NONE);
            }
        }
        for (int k = 0; k < 4; k++) {
            due.is("new: lay on nothing", x.lay(k, 0, 1), -11);
        }
        due.is("new: fault", x.fault(), 0);
        due.is("new: torn", x.torn(), 0);
        due.is("new: notes", x.notes(0), 0);
        due.is("new: noteOf", x.noteOf(0, 0), BAD);
        due.is("new: teller", x.teller(0, 0), BAD);
        due.is("new: other objects stay new", new NextFigures().count(6), 4);
    }

    private static void now() {
        NextFigures x = new NextFigures();
        due.is("now(-1)", x.now(-1), BAD);
        due.is("now(64)", x.now(64), BAD);
        due.is("now(5)", x.now(5), 0);
        due.is("now(5) again", x.now(5), 5);
        due.is("now(4), ahead of it", x.now(4), BAD);
        due.is("NOW stays", x.count(0), 5);
        due.is("now(63)", x.now(63), 5);
        due.is("now(64)", x.now(64), BAD);
        due.is("now(0)", x.now(0), BAD);
        due.is("NOW stays", x.count(0), 63);
    }

    private static void figure() {
        NextFigures x = new NextFigures();
        x.now(3);
        due.is("figure, new", x.figure(1, 3, 0), NONE);
        due.is("figure, again", x.figure(1, 3, 999), 0);
        due.is("figure, a gap is told", x.figure(1, 3, NONE), 999);
        due.is("figure, behind a gap", x.figure(1, 3, 7), NONE);
        due.is("tellings", x.count(1), 4);
        int[][] wrong = {{-1, 0, 1}, {4, 0, 1}, {0, -1, 1}, {0, 4, 1}, {0, 64, 1}, {0, 0, 1000},
            {0, 0, -1}, {0, 0, -3}, {0, 0, -5}, {0, 0, Integer.MIN_VALUE}, {Integer.MAX_VALUE, 0, 1}};
        for (int[] w : wrong) {
            due.is("figure, wrong " + w[0] + " " + w[1] + " " + w[2], x.figure(w[0], w[1], w[2]), -5);
        }
        due.is("wrong ones are not told", x.count(1), 4);
        for (int i = 4; i < 200; i++) {
            due.is("figure " + i, x.figure(2, 0, i), i == 4 ? NONE : i - 1);
        }
        due.is("figure, full", x.figure(2, 0, 1), -7);
        due.is("figure, full and so already", x.figure(2, 0, 199), -7);
        due.is("figure, full and wrong", x.figure(4, 0, 1), -5);
        due.is("full: as it was", x.known(2, 0, 3), 199);
    }

    private static void known() {
        NextFigures x = new NextFigures();
        x.figure(0, 0, 5);
        x.now(2);
        x.figure(0, 0, 6);
        x.figure(0, 0, 7);
        x.now(4);
        x.figure(0, 0, NONE);
        x.now(5);
        int[] want = {5, 5, 7, 7, NONE, NONE, NONE};
        for (int on = 0; on < want.length; on++) {
            due.is("known on " + on, x.known(0, 0, on), want[on]);
        }
        x.figure(0, 4, 9);
        due.is("told late, on its day", x.known(0, 4, 4), NONE);
        due.is("told late, then", x.known(0, 4, 5), 9);
        due.is("known on a day behind NOW", x.known(0, 4, 63), 9);
        due.is("another shop", x.known(1, 4, 5), NONE);
        int[][] wrong = {{-1, 0, 0}, {4, 0, 0}, {0, -1, 0}, {0, 64, 0}, {0, 0, -1}, {0, 0, 64}};
        for (int[] w : wrong) {
            due.is("known, wrong", x.known(w[0], w[1], w[2]), BAD);
        }
    }

    private static void mark() {
        NextFigures x = new NextFigures();
        for (int which = 0; which < 2; which++) {
            due.is("mark", x.mark(which, 63, true), 0);
            due.is("mark again", x.mark(which, 63, true), 1);
            due.is("mark another", x.mark(which, 0, false), 0);
            due.is("marked", x.count(2 + which), 1);
            due.is("the other", x.count(3 - which), which);
        }
        due.is("unmark", x.mark(0, 63, false), 1);
        due.is("unmarked", x.mark(0, 63, false), 0);
        due.is("feasts", x.count(2), 0);
        due.is("deeds", x.count(3), 1);
        due.is("mark, wrong", x.mark(-1, 0, true), BAD);
        due.is("mark, wrong", x.mark(2, 0, true), BAD);
        due.is("mark, wrong", x.mark(0, -1, true), BAD);
        due.is("mark, wrong", x.mark(1, 64, true), BAD);
    }

    private static void feed() {
        NextFigures x = new NextFigures();
        for (int i = 1; i <= 15; i++) {
            due.is("feed", x.feed(-1), 8 * i);
        }
        due.is("feed, full", x.feed(0), FULL);
        due.is("feed, full: as it was", x.count(7), 120);
        x.end(112);
        due.is("feed to the brim", x.feed(0), 120);
        x.end(113);
        due.is("feed, seven too many", x.feed(0), FULL);
        x.end(0);
        x.feed(Due.word("same 14;"));
        due.is("highest byte first", x.text(), 1);
        due.is("highest byte first", x.teller(0, 1), 14);
    }

    private static void end() {
        NextFigures x = new NextFigures();
        due.is("end(0)", x.end(0), 0);
        due.is("end(1) of none", x.end(1), BAD);
        Due.lay(x, "same 1;same 2;");
        due.is("end(-1)", x.end(-1), BAD);
        due.is("end(15)", x.end(15), BAD);
        due.is("end(14)", x.end(14), 14);
        due.is("end(7)", x.end(7), 14);
        due.is("bytes", x.count(7), 7);
        due.is("text", x.text(), 1);
    }

    private static void text() {
        NextFigures x = new NextFigures();
        due.is("text", Due.tell(x, "same 1;mean 20;step 0 10;like 8;joined 30;"), 5);
        due.is("the tape is empty then", x.count(7), 0);
        due.is("tellers", x.count(4), 5);
        due.is("blanks", Due.tell(x, "   mean   02   ;   "), 1);
        due.is("told anew", x.count(4), 1);
        due.is("no blanks", Due.tell(x, "step0 0;same14;"), 2);
        due.is("a fault", Due.tell(x, "same 1;?"), -17);
        due.is("those that were told stay", x.count(4), 2);
        due.is("and are as told", x.teller(1, 1), 14);
        due.is("the tape is empty then too", x.count(7), 0);
        due.is("no line tells none", x.text(), 0);
        due.is("none", x.count(4), 0);
        due.is("blanks alone", Due.tell(x, "    "), 0);
    }

    private static void textFaults() {
        String six = "same 1;same 1;same 1;same 1;same 1;same 1;";
        Object[][] faults = {
            {"?", 1, 0}, {"same 1;Same 1;", 1, 7}, {"same 100;", 1, 5}, {"same 001;", 1, 5}, {"same 1,", 1, 6},
            {"same -1;", 1, 5}, {"same\t1;", 1, 4}, {"same 1;\u00e9", 1, 7}, {"same 1;\u0000", 1, 7},
            {"same", 2, 4}, {"same   ", 2, 7}, {"same 1", 2, 6}, {"same 1  ", 2, 8}, {"1", 2, 0}, {";", 2, 0},
            {"sam 1;", 2, 0}, {"samee 1;", 2, 0}, {"samemean 1;", 2, 0}, {"same;", 2, 4}, {"same same", 2, 5},
            {"same 1;;", 2, 7}, {"same 1 2;", 2, 7}, {"step 1;", 2, 6}, {"step 1 2", 2, 8}, {"step 1 2 3;", 2, 9},
            {"zone 1;", 2, 0}, {"samez 1;", 2, 0}, {"same 1 zz", 2, 7}, {"same 1 same", 2, 7}, {"step 1 like", 2, 7},
            {"same 0;", 3, 5}, {"same 15;", 3, 5}, {"mean 0;", 3, 5}, {"mean 21;", 3, 5}, {"step 11 0;", 3, 5},
            {"step 0 11;", 3, 7}, {"like 0;", 3, 5}, {"like 9;", 3, 5}, {"mean 1;joined 0;", 3, 14},
            {"mean 1;joined 31;", 3, 14}, {"same 15?", 3, 5}, {"same 00 same", 3, 5},
            {six + "same 1;", 4, 42}, {six + " joined 1;", 4, 43}, {six + "same", 4, 42},
            {six + "tree", 2, 42}, {six + "7", 2, 42}, {six + "?", 1, 42},
            {"joined 1;", 5, 0}, {"  joined", 5, 2}, {"joined ?", 5, 0},
        };
        for (Object[] f : faults) {
            NextFigures x = new NextFigures();
            Due.tell(x, "like 3;");
            due.is("text " + f[0], Due.tell(x, (String) f[0]), -10 - (Integer) f[2]);
            due.is("fault of " + f[0], x.fault(), (Integer) f[1]);
            due.is("tellers behind " + f[0], x.teller(0, 1), 3);
            due.is("tellers behind " + f[0], x.count(4), 1);
        }
        NextFigures x = new NextFigures();
        due.is("six lines and blanks", Due.tell(x, six + "  "), 6);
    }

    private static void fault() {
        NextFigures x = new NextFigures();
        due.is("fault of none", x.fault(), 0);
        Due.tell(x, "same 99;");
        due.is("fault", x.fault(), 3);
        due.is("fault, asked again", x.fault(), 3);
        Due.lay(x, "mean");
        due.is("fault, ahead of the next text", x.fault(), 3);
        x.text();
        due.is("fault of the latest", x.fault(), 2);
        Due.tell(x, "mean 1;");
        due.is("fault of one that is taken", x.fault(), 0);
    }

    private static void teller() {
        NextFigures x = new NextFigures();
        Due.tell(x, "same 3;mean 4;step 5 6;like 7;joined 8;");
        int[][] want = {{0, 3, 0}, {1, 4, 0}, {2, 5, 6}, {3, 7, 0}, {4, 8, 0}};
        for (int k = 0; k < 5; k++) {
            for (int what = 0; what < 3; what++) {
                due.is("teller " + k + " " + what, x.teller(k, what), want[k][what]);
            }
        }
        due.is("teller, wrong", x.teller(-1, 0), BAD);
        due.is("teller, wrong", x.teller(5, 0), BAD);
        due.is("teller, wrong", x.teller(0, -1), BAD);
        due.is("teller, wrong", x.teller(0, 3), BAD);
    }

    private static void tellsSame() {
        NextFigures x = Scene.daily("same 2;", 10, 20, 30, 40);
        due.is("same 2, ahead 1", x.tells(0, 0, 3, 1), 30);
        due.is("same 2, ahead 2", x.tells(0, 0, 3, 2), 40);
        due.is("same 2, ahead 3", x.tells(0, 0, 3, 3), 30);
        due.is("same 2, on an earlier day", x.tells(0, 0, 1, 1), 10);
        due.is("same 2, too early", x.tells(0, 0, 0, 1), NONE);
        x = Scene.daily("same 2;", 10, 20, NONE, 40);
        due.is("same 2, over a gap", x.tells(0, 0, 3, 1), 10);
        x = Scene.daily("same 2;", NONE, 20, NONE, 40);
        due.is("same 2, all gaps", x.tells(0, 0, 3, 1), NONE);
        x.now(63);
        x.figure(0, 63, 8);
        due.is("same 2, of a day behind all days", x.tells(0, 0, 63, 14), 8);
        due.is("another shop", x.tells(1, 0, 63, 14), NONE);
    }

    private static void tellsMean() {
        NextFigures x = Scene.daily("mean 3;", 10, 20, NONE, 30, 41);
        due.is("mean 3", x.tells(0, 0, 4, 1), 30);
        due.is("mean 3, any ahead", x.tells(0, 0, 4, 14), 30);
        due.is("mean 3 of just three", x.tells(0, 0, 3, 1), 20);
        due.is("mean 3 of two", x.tells(0, 0, 2, 1), NONE);
        x.now(6);
        x.figure(0, 4, 1);
        x.figure(0, 2, 5);
        due.is("as it was known then", x.tells(0, 0, 5, 1), 30);
        due.is("as it is known now", x.tells(0, 0, 6, 1), 12);
    }

    private static void tellsStep() {
        NextFigures x = Scene.daily("step 5 5;step 10 10;step 0 10;", 100, 200);
        due.is("step 5 5", x.tells(0, 0, 1, 1), 175);
        due.is("step 5 5, ahead 14", x.tells(0, 0, 1, 14), 500);
        due.is("step 10 10", x.tells(0, 1, 1, 1), 300);
        due.is("step 10 10, 999 at most", x.tells(0, 1, 1, 14), 999);
        due.is("step 0 10 stays", x.tells(0, 2, 1, 9), 100);
        due.is("one figure is too few", x.tells(0, 0, 0, 1), NONE);
        x = Scene.daily("step 5 5;", 200, 100, NONE);
        due.is("step down", x.tells(0, 0, 1, 1), 125);
        due.is("step down, 0 at least", x.tells(0, 0, 1, 7), 0);
        due.is("over a gap", x.tells(0, 0, 2, 1), 100);
        x = Scene.daily("step 10 10;", NONE, NONE, 10, NONE, 30);
        due.is("from the first figure on", x.tells(0, 0, 4, 1), 50);
        x = Scene.daily("step 3 7;", 1, 0);
        // LEVEL 70, SLOPE 7 times -30 by 10 is -21; 49 by 100; -14 by 100 is below 0
        due.is("parts of one", x.tells(0, 0, 1, 1), 0);
        // LEVEL 270, SLOPE 135; then LEVEL 130, SLOPE -25 by 10, that is -3
        x = Scene.daily("step 9 5;", 0, 0, 3, 1);
        due.is("divided down below 0", x.tells(0, 0, 3, 14), 0);
        due.is("divided down below 0", x.tells(0, 0, 3, 10), 1);
    }

    private static void tellsLike() {
        NextFigures x = new NextFigures();
        Due.tell(x, "like 2;like 8;");
        x.now(21);
        x.figure(0, 0, 10);
        x.figure(0, 7, 21);
        x.figure(0, 14, 40);
        x.figure(0, 15, 500);
        due.is("like 2", x.tells(0, 0, 21, 7), 30);
        due.is("like 8 with three", x.tells(0, 1, 21, 7), 23);
        due.is("like, a day ahead", x.tells(0, 0, 21, 1), 500);
        due.is("like, none", x.tells(0, 0, 21, 2), NONE);
        x.mark(0, 7, true);
        due.is("without a feast", x.tells(0, 0, 21, 7), 25);
        x.mark(0, 28, true);
        due.is("a feast", x.tells(0, 0, 21, 7), 21);
        due.is("no other feast", x.tells(0, 0, 21, 1), 500);
        x.mark(0, 22, true);
        due.is("a feast like no other", x.tells(0, 0, 21, 1), NONE);
        x.mark(0, 7, false);
        x.mark(1, 7, true);
        due.is("a deed is no feast", x.tells(0, 0, 21, 7), NONE);
        x.now(63);
        due.is("a day behind all days is no feast", x.tells(0, 0, 63, 7), 30);
    }

    private static void tellsJoined() {
        NextFigures x = Scene.daily("same 1;mean 2;joined 2;joined 1;", 10, 20, 30);
        // weights 90 and 62: 4250 by 152
        due.is("joined 2", x.tells(0, 2, 2, 1), 27);
        due.is("joined ones are not joined", x.tells(0, 3, 2, 1), 27);
        due.is("joined, one tells", x.tells(0, 2, 1, 1), 20);
        due.is("joined, weights 0", x.tells(0, 2, 0, 1), NONE);
        due.is("joined, none tells", x.tells(1, 2, 2, 1), NONE);
        due.is("joined, another ahead", x.tells(0, 2, 2, 2), 30);
        x = Scene.daily("same 1;joined 1;mean 1;", 10, 10, 10);
        due.is("joined, those ahead alone", x.tells(0, 1, 2, 1), 10);
    }

    private static void tellsWrong() {
        NextFigures x = Scene.daily("same 1;", 10, 20, 30);
        int[][] wrong = {{-1, 0, 2, 1}, {4, 0, 2, 1}, {0, -1, 2, 1}, {0, 1, 2, 1}, {0, 0, -1, 1}, {0, 0, 3, 1},
            {0, 0, 2, 0}, {0, 0, 2, 15}, {0, 0, 64, 1}};
        for (int[] w : wrong) {
            due.is("tells, wrong", x.tells(w[0], w[1], w[2], w[3]), BAD);
        }
        due.is("tells on NOW", x.tells(0, 0, 2, 14), 30);
    }

    private static void weight() {
        NextFigures x = Scene.daily("same 1;mean 2;joined 2;joined 1;", 10, 20, 30);
        due.is("weight of same", x.weight(0, 2, 0, 2, 1), 90);
        due.is("weight of mean", x.weight(0, 2, 1, 2, 1), 62);
        due.is("weight without misses", x.weight(0, 2, 0, 0, 1), 0);
        due.is("weight of none", x.weight(0, 2, 1, 0, 1), NONE);
        x.now(3);
        x.figure(0, 2, 21);
        due.is("weight as it was known then", x.weight(0, 2, 0, 2, 1), 90);
        // days 2 and 1: 1 and 10
        due.is("weight as it is known now", x.weight(0, 2, 0, 3, 1), 166);
        due.is("weight of the latest day", x.weight(0, 3, 0, 3, 1), 500);
        int[][] wrong = {{-1, 2, 0, 2, 1}, {4, 2, 0, 2, 1}, {0, -1, 0, 2, 1}, {0, 4, 0, 2, 1}, {0, 2, -1, 2, 1},
            {0, 1, 0, 2, 1}, {0, 3, 2, 2, 1}, {0, 2, 2, 2, 1}, {0, 2, 3, 2, 1}, {0, 2, 4, 2, 1}, {0, 2, 0, -1, 1},
            {0, 2, 0, 4, 1}, {0, 2, 0, 2, 0}, {0, 2, 0, 2, 15}};
        for (int[] w : wrong) {
            due.is("weight, wrong", x.weight(w[0], w[1], w[2], w[3], w[4]), BAD);
        }
        x = Scene.daily("same 1;joined 30;", 10, 10, 10);
        due.is("weight of no miss", x.weight(0, 1, 0, 2, 1), 1000);
        // of day 0 and 1 no figure, of day 3 a gap: 30 less 20 alone
        x = Scene.daily("same 1;joined 1;", NONE, 20, 30, NONE);
        due.is("weight over a gap", x.weight(0, 1, 0, 3, 1), 90);
    }

    private static void miss() {
        NextFigures x = Scene.daily("same 1;mean 2;", 10, 20, 35, NONE, 50);
        due.is("miss", x.miss(0, 0, 1, 1), 10);
        due.is("miss, ahead 2", x.miss(0, 0, 2, 2), 25);
        due.is("miss, over a gap", x.miss(0, 0, 1, 4), 15);
        due.is("miss, a gap", x.miss(0, 0, 1, 3), NONE);
        due.is("miss, too early", x.miss(0, 0, 1, 0), NONE);
        due.is("miss, too early", x.miss(0, 0, 14, 4), NONE);
        due.is("miss, nothing told", x.miss(0, 1, 1, 1), NONE);
        due.is("miss, not come", x.miss(0, 0, 1, 63), NONE);
        x.now(5);
        x.figure(0, 1, 90);
        due.is("miss, the figure as known now", x.miss(0, 0, 1, 1), 80);
        due.is("miss, told by what was known then", x.miss(0, 0, 1, 2), 15);
        int[][] wrong = {{-1, 0, 1, 1}, {4, 0, 1, 1}, {0, -1, 1, 1}, {0, 2, 1, 1}, {0, 0, 0, 1}, {0, 0, 15, 1},
            {0, 0, 1, -1}, {0, 0, 1, 64}};
        for (int[] w : wrong) {
            due.is("miss, wrong", x.miss(w[0], w[1], w[2], w[3]), BAD);
        }
    }

    private static void misses() {
        NextFigures x = Scene.daily("same 1;", 10, 20, 30, 25);
        int[] want = {3, 25, 10, 1};
        int[] ofNone = {0, 0, NONE, NONE};
        for (int what = 0; what < 4; what++) {
            due.is("misses " + what, x.misses(0, 0, 1, 0, 63, what), want[what]);
            due.is("misses of none " + what, x.misses(0, 0, 1, 0, 0, what), ofNone[what]);
            due.is("misses of none " + what, x.misses(1, 0, 1, 0, 63, what), ofNone[what]);
        }
        due.is("misses, one day", x.misses(0, 0, 1, 3, 3, 1), 5);
        int[][] wrong = {{-1, 0, 1, 0, 3, 0}, {4, 0, 1, 0, 3, 0}, {0, -1, 1, 0, 3, 0}, {0, 1, 1, 0, 3, 0},
            {0, 0, 0, 0, 3, 0}, {0, 0, 15, 0, 3, 0}, {0, 0, 1, -1, 3, 0}, {0, 0, 1, 64, 64, 0}, {0, 0, 1, 0, 64, 0},
            {0, 0, 1, 3, 2, 0}, {0, 0, 1, 0, 3, -1}, {0, 0, 1, 0, 3, 4}};
        for (int[] w : wrong) {
            due.is("misses, wrong", x.misses(w[0], w[1], w[2], w[3], w[4], w[5]), BAD);
        }
        x = Scene.daily("same 1;", 5, 5, 5);
        due.is("the greatest of 0", x.misses(0, 0, 1, 0, 2, 2), 0);
        due.is("the first day of 0", x.misses(0, 0, 1, 0, 2, 3), 1);
    }

    private static void best() {
        NextFigures x = Scene.daily("same 1;mean 2;", 10, 20, 30, 25);
        due.is("best, 15 by 2 below 25 by 3", x.best(0, 1, 0, 3), 1);
        due.is("best, of several the least", x.best(0, 1, 2, 3), 0);
        due.is("best, another has none", x.best(0, 1, 0, 1), 0);
        due.is("best, none", x.best(0, 1, 0, 0), NONE);
        due.is("best, none", x.best(3, 1, 0, 63), NONE);
        int[][] wrong = {{-1, 1, 0, 3}, {4, 1, 0, 3}, {0, 0, 0, 3}, {0, 15, 0, 3}, {0, 1, -1, 3}, {0, 1, 0, 64},
            {0, 1, 3, 2}, {0, 1, 64, 64}};
        for (int[] w : wrong) {
            due.is("best, wrong", x.best(w[0], w[1], w[2], w[3]), BAD);
        }
        due.is("best without tellers", new NextFigures().best(0, 1, 0, 63), NONE);
    }

    private static void fit() {
        NextFigures x = Scene.daily("", 10, 20, 30, 25);
        int[] same = {1, 3, 25};
        for (int what = 0; what < 3; what++) {
            due.is("fit same", x.fit(0, 0, 1, 0, 3, what), same[what]);
            due.is("fit mean", x.fit(0, 1, 1, 0, 3, what), same[what]);
            due.is("fit like, none", x.fit(0, 3, 1, 0, 3, what), NONE);
            due.is("fit step, none", x.fit(0, 2, 1, 0, 1, what), NONE);
        }
        due.is("fit step, days", x.fit(0, 2, 1, 0, 3, 1), 2);
        x = Scene.daily("", 5, 5, 5, 5);
        due.is("fit step, the least of all", x.fit(0, 2, 1, 0, 3, 0), 0);
        due.is("fit step, no miss", x.fit(0, 2, 1, 0, 3, 2), 0);
        x = Scene.daily("", 10, 20, 30, 40, 50);
        due.is("fit step, a straight row", x.fit(0, 2, 1, 2, 4, 2), 0);
        due.is("fit step, a 10 and b 10", x.fit(0, 2, 1, 2, 4, 0), 110);
        x = Scene.daily("", 1, 9, 1, 9, 1, 9, 1, 9, 1, 9, 1, 9);
        due.is("fit same, every other day", x.fit(0, 0, 1, 2, 11, 0), 2);
        due.is("fit same, most days go first", x.fit(0, 0, 1, 0, 11, 0), 1);
        due.is("fit same, most days go first", x.fit(0, 0, 1, 0, 11, 1), 11);
        due.is("fit mean, most days", x.fit(0, 1, 1, 8, 11, 0), 2);
        due.is("fit same, the greatest N", Scene.daily("", 1, 3, 7, 8, 10, 20, 30, 40, 1, 3).fit(0, 0, 1, 8, 9, 0), 8);
        int[][] wrong = {{-1, 0, 1, 0, 3, 0}, {4, 0, 1, 0, 3, 0}, {0, -1, 1, 0, 3, 0}, {0, 4, 1, 0, 3, 0},
            {0, 0, 0, 0, 3, 0}, {0, 0, 15, 0, 3, 0}, {0, 0, 1, -1, 3, 0}, {0, 0, 1, 0, 64, 0}, {0, 0, 1, 3, 2, 0},
            {0, 0, 1, 0, 3, -1}, {0, 0, 1, 0, 3, 3}};
        for (int[] w : wrong) {
            due.is("fit, wrong", x.fit(w[0], w[1], w[2], w[3], w[4], w[5]), BAD);
        }
    }

    private static void span() {
        NextFigures x = Scene.daily("same 1;", 10, 20, 30, 25);
        int[][] want = {{1, 5}, {33, 5}, {34, 10}, {66, 10}, {67, 10}, {100, 10}};
        for (int[] w : want) {
            due.is("span for " + w[0], x.span(0, 0, 1, 0, 63, w[0]), w[1]);
        }
        due.is("span, some days", x.span(0, 0, 1, 3, 3, 100), 5);
        due.is("span, none", x.span(0, 0, 1, 0, 0, 50), NONE);
        int[][] wrong = {{-1, 0, 1, 0, 3, 50}, {4, 0, 1, 0, 3, 50}, {0, 1, 1, 0, 3, 50}, {0, 0, 15, 0, 3, 50},
            {0, 0, 1, -1, 3, 50}, {0, 0, 1, 0, 64, 50}, {0, 0, 1, 3, 2, 50}, {0, 0, 1, 0, 3, 0}, {0, 0, 1, 0, 3, 101}};
        for (int[] w : wrong) {
            due.is("span, wrong", x.span(w[0], w[1], w[2], w[3], w[4], w[5]), BAD);
        }
    }

    private static void hold() {
        NextFigures x = Scene.daily("same 1;", 10, 20, 30, 25, 25);
        int[][] want = {{0, 1}, {4, 1}, {5, 2}, {9, 2}, {10, 4}, {999, 4}};
        for (int[] w : want) {
            due.is("hold " + w[0], x.hold(0, 0, 1, 0, 63, w[0]), w[1]);
        }
        due.is("hold, none", x.hold(1, 0, 1, 0, 63, 999), 0);
        int[][] wrong = {{-1, 0, 1, 0, 3, 5}, {4, 0, 1, 0, 3, 5}, {0, 1, 1, 0, 3, 5}, {0, 0, 0, 0, 3, 5},
            {0, 0, 1, -1, 3, 5}, {0, 0, 1, 0, 64, 5}, {0, 0, 1, 3, 2, 5}, {0, 0, 1, 0, 3, -1}, {0, 0, 1, 0, 3, 1000}};
        for (int[] w : wrong) {
            due.is("hold, wrong", x.hold(w[0], w[1], w[2], w[3], w[4], w[5]), BAD);
        }
    }

    private static void going() {
        NextFigures x = Scene.daily("same 1;", 10, 20, 30, 25, 25, 50);
        due.is("going, days", x.going(0, 0, 1, 0, 5, 50, 0), 2);
        due.is("going, within", x.going(0, 0, 1, 0, 5, 50, 1), 1);
        due.is("going, from day 0 on", x.going(0, 0, 1, 5, 5, 50, 0), 1);
        due.is("going, not within", x.going(0, 0, 1, 5, 5, 100, 1), 0);
        due.is("going, too early", x.going(0, 0, 1, 0, 3, 50, 0), 0);
        // ahead 2 the misses from day 2 on: 20 5 5 25; on day 5 those up to day 3 are too few
        due.is("going, ahead 2", x.going(0, 0, 2, 0, 5, 50, 0), 0);
        int[][] wrong = {{-1, 0, 1, 0, 3, 50, 0}, {4, 0, 1, 0, 3, 50, 0}, {0, 1, 1, 0, 3, 50, 0},
            {0, 0, 0, 0, 3, 50, 0}, {0, 0, 1, -1, 3, 50, 0}, {0, 0, 1, 0, 64, 50, 0}, {0, 0, 1, 3, 2, 50, 0},
            {0, 0, 1, 0, 3, 0, 0}, {0, 0, 1, 0, 3, 101, 0}, {0, 0, 1, 0, 3, 50, -1}, {0, 0, 1, 0, 3, 50, 2}};
        for (int[] w : wrong) {
            due.is("going, wrong", x.going(w[0], w[1], w[2], w[3], w[4], w[5], w[6]), BAD);
        }
        x.now(6);
        x.figure(0, 5, 35);
        due.is("going, as known now", x.going(0, 0, 1, 5, 5, 100, 1), 1);
    }

    private static void agree() {
        NextFigures x = new NextFigures();
        long numbers = 40030020010L;
        int[][] more = {{11, 21, 31, 40}, {13, 23, 30, 40}};
        for (int shop = 0; shop < 4; shop++) {
            due.is("agree, more", x.agree(numbers, 1010101, 103, shop), more[0][shop]);
            due.is("agree, two weights", x.agree(numbers, 505, 106, shop), more[1][shop]);
            due.is("agree, less", x.agree(numbers, 1010101, 96, shop), 10 * (shop + 1) - 1);
            due.is("agree already", x.agree(numbers, 1010101, 100, shop), 10 * (shop + 1));
            due.is("agree already, no weights", x.agree(numbers, 0, 100, shop), 10 * (shop + 1));
            due.is("agree, no weights", x.agree(numbers, 0, 101, shop), FAR_NONE);
        }
        due.is("agree, below 0", x.agree(5, 100, 0, 1), -5);
        due.is("agree, below 0", x.agree(5, 100, 0, 0), 5);
        due.is("agree, what is left goes to the least with a weight", x.agree(0, 7000300, 11, 0), 0);
        due.is("agree, what is left goes to the least with a weight", x.agree(0, 7000300, 11, 1), 4);
        due.is("agree, what is left goes to the least with a weight", x.agree(0, 7000300, 11, 3), 7);
        due.is("agree, the greatest", x.agree(999999999999L, 99999999, 9999, 3), 2499);
        due.is("agree, wrong", x.agree(-1, 1, 1, 0), FAR_BAD);
        due.is("agree, wrong", x.agree(1000000000000L, 1, 1, 0), FAR_BAD);
        due.is("agree, wrong", x.agree(Long.MIN_VALUE, 1, 1, 0), FAR_BAD);
        due.is("agree, wrong", x.agree(1, -1, 1, 0), FAR_BAD);
        due.is("agree, wrong", x.agree(1, 100000000, 1, 0), FAR_BAD);
        due.is("agree, wrong", x.agree(1, 1, -1, 0), FAR_BAD);
        due.is("agree, wrong", x.agree(1, 1, 10000, 0), FAR_BAD);
        due.is("agree, wrong", x.agree(1, 1, 1, -1), FAR_BAD);
        due.is("agree, wrong", x.agree(1, 1, 1, 4), FAR_BAD);
        due.is("agree, wrong goes first", x.agree(1, 0, 2, 4), FAR_BAD);
    }

    private static void number() {
        // told 25; odds 35, 35, 20
        NextFigures x = Scene.daily("same 1;mean 4;", 10, 20, 30, 25);
        due.is("number, in the middle", x.number(0, 0, 1, 0, 3, 1, 1, 0), 35);
        due.is("number, its cost", x.number(0, 0, 1, 0, 3, 1, 1, 1), 15);
        due.is("number, of several the least", x.number(0, 0, 1, 0, 3, 2, 1, 0), 20);
        due.is("number, of several the least", x.number(0, 0, 1, 0, 3, 2, 1, 1), 30);
        due.is("number, too few are dear", x.number(0, 0, 1, 0, 3, 1, 99, 0), 35);
        due.is("number, too many are dear", x.number(0, 0, 1, 0, 3, 99, 1, 0), 20);
        due.is("number, some days", x.number(0, 0, 1, 3, 3, 5, 5, 0), 20);
        due.is("number, no odds", x.number(0, 0, 1, 0, 0, 1, 1, 0), NONE);
        due.is("number, no odds", x.number(0, 1, 1, 0, 3, 1, 1, 0), NONE);
        due.is("number, nothing told", x.number(1, 0, 1, 0, 3, 1, 1, 0), NONE);
        // told 5; the odds are 900 less
        x = Scene.daily("same 1;", 905, 5);
        due.is("number, 0 at least", x.number(0, 0, 1, 0, 1, 3, 2, 0), 0);
        due.is("number, 0 at least", x.number(0, 0, 1, 0, 1, 3, 2, 1), 3 * 895);
        x = Scene.daily("same 1;", 5, 905);
        due.is("number, 999 at most", x.number(0, 0, 1, 0, 1, 3, 2, 0), 999);
        due.is("number, 999 at most", x.number(0, 0, 1, 0, 1, 3, 2, 1), 2 * 806);
        int[][] wrong = {{-1, 0, 1, 0, 1, 1, 1, 0}, {4, 0, 1, 0, 1, 1, 1, 0}, {0, 1, 1, 0, 1, 1, 1, 0},
            {0, 0, 0, 0, 1, 1, 1, 0}, {0, 0, 1, -1, 1, 1, 1, 0}, {0, 0, 1, 0, 64, 1, 1, 0}, {0, 0, 1, 1, 0, 1, 1, 0},
            {0, 0, 1, 0, 1, 0, 1, 0}, {0, 0, 1, 0, 1, 100, 1, 0}, {0, 0, 1, 0, 1, 1, 0, 0}, {0, 0, 1, 0, 1, 1, 100, 0},
            {0, 0, 1, 0, 1, 1, 1, -1}, {0, 0, 1, 0, 1, 1, 1, 2}};
        for (int[] w : wrong) {
            due.is("number, wrong", x.number(w[0], w[1], w[2], w[3], w[4], w[5], w[6], w[7]), BAD);
        }
    }

    private static void worth() {
        NextFigures x = Scene.daily("same 1;", 10, 20, 30, 25);
        due.is("worth, no deeds", x.worth(0, 0, 1, 0, 3), FAR_NONE);
        x.mark(1, 0, true);
        due.is("worth, no miss", x.worth(0, 0, 1, 0, 3), FAR_NONE);
        x.mark(1, 3, true);
        due.is("worth, below 0", x.worth(0, 0, 1, 0, 3), -5);
        x.mark(1, 1, true);
        due.is("worth", x.worth(0, 0, 1, 0, 63), 5);
        due.is("worth, some days", x.worth(0, 0, 1, 0, 2), 10);
        x.mark(0, 2, true);
        due.is("worth, a feast is no deed", x.worth(0, 0, 1, 2, 2), FAR_NONE);
        int[][] wrong = {{-1, 0, 1, 0, 3}, {4, 0, 1, 0, 3}, {0, 1, 1, 0, 3}, {0, 0, 15, 0, 3}, {0, 0, 1, -1, 3},
            {0, 0, 1, 0, 64}, {0, 0, 1, 3, 2}};
        for (int[] w : wrong) {
            due.is("worth, wrong", x.worth(w[0], w[1], w[2], w[3], w[4]), FAR_BAD);
        }
    }

    private static void dealt() {
        NextFigures x = Scene.daily("same 1;", 10, 20, 30, 25);
        int[] ofNone = {NONE, 1, 3, 0};
        int[] ofOne = {2, 3, 3, 1};
        int[] ofTwo = {3, 3, 3, 2};
        for (int what = 0; what < 4; what++) {
            due.is("dealt, no deed " + what, x.dealt(0, 0, 1, 0, 3, what), ofNone[what]);
        }
        x.mark(1, 1, true);
        x.mark(1, 0, true);
        for (int what = 0; what < 4; what++) {
            due.is("dealt, one deed " + what, x.dealt(0, 0, 1, 0, 3, what), ofOne[what]);
        }
        x.mark(1, 3, true);
        for (int what = 0; what < 4; what++) {
            due.is("dealt, two deeds " + what, x.dealt(0, 0, 1, 0, 3, what), ofTwo[what]);
        }
        due.is("dealt, no days with a miss", x.dealt(0, 0, 1, 0, 0, 1), 1);
        int[][] wrong = {{-1, 0, 1, 0, 3, 0}, {4, 0, 1, 0, 3, 0}, {0, 1, 1, 0, 3, 0}, {0, 0, 15, 0, 3, 0},
            {0, 0, 1, -1, 3, 0}, {0, 0, 1, 0, 64, 0}, {0, 0, 1, 3, 2, 0}, {0, 0, 1, 0, 3, -1}, {0, 0, 1, 0, 3, 4}};
        for (int[] w : wrong) {
            due.is("dealt, wrong", x.dealt(w[0], w[1], w[2], w[3], w[4], w[5]), BAD);
        }
        dealtManyDays();
    }

    private static void dealtManyDays() {
        int[] figures = new int[18];
        for (int day = 0; day < 18; day++) {
            figures[day] = day * day;
        }
        NextFigures x = Scene.daily("same 1;", figures);
        for (int day = 9; day <= 16; day++) {
            x.mark(1, day, true);
        }
        for (int what = 0; what < 4; what++) {
            due.is("dealt, 17 days", x.dealt(0, 0, 1, 0, 17, what), STATE);
        }
        due.is("dealt, 17 days without figures do not count", x.dealt(0, 0, 1, 17, 63, 2), 1);
        int[] of16 = {1, 12870, 16, 8};
        for (int what = 0; what < 4; what++) {
            due.is("dealt, 16 days", x.dealt(0, 0, 1, 0, 16, what), of16[what]);
        }
    }

    private static void change() {
        due.is("change", Scene.daily("", 1, 1, 5, 5).change(0, 0, 3), 2);
        due.is("change, behind t", Scene.daily("", 1, 1, 5, 5, 9).change(0, 1, 4), 2);
        due.is("change, of several the least", Scene.daily("", 4, 4, 4, 4).change(0, 0, 3), 1);
        due.is("change, as far as u", Scene.daily("", 4, 4, 4, 9).change(0, 0, 63), 3);
        due.is("change over gaps", Scene.daily("", 1, NONE, NONE, 9, NONE).change(0, 0, 4), 1);
        // the sum is 28 by 15 with day 3, and 2 with day 4
        due.is("change, exactly", Scene.daily("", 0, 1, 0, 1, 2, 1, 2, 1).change(0, 0, 7), 3);
        NextFigures x = Scene.daily("", 1, 1, 5, 5);
        due.is("change, one day", x.change(0, 2, 2), NONE);
        due.is("change, one figure", x.change(0, 3, 63), NONE);
        due.is("change, no figure", x.change(1, 0, 63), NONE);
        x.now(4);
        x.figure(0, 2, 1);
        due.is("change, as known now", x.change(0, 0, 3), 3);
        int[][] wrong = {{-1, 0, 3}, {4, 0, 3}, {0, -1, 3}, {0, 0, 64}, {0, 3, 2}, {0, 64, 64}};
        for (int[] w : wrong) {
            due.is("change, wrong", x.change(w[0], w[1], w[2]), BAD);
        }
    }

    private static void note() {
        NextFigures x = Scene.daily("same 1;mean 3;", 10, 20);
        due.is("note", x.note(0, 0, 1, 0), 0);
        due.is("note, nothing told", x.note(0, 1, 1, 0), NONE);
        due.is("note, nothing told", x.note(1, 0, 1, 0), NONE);
        due.is("note", x.note(0, 0, 14, 999), 1);
        int[][] wrong = {{-1, 0, 1, 0}, {4, 0, 1, 0}, {0, -1, 1, 0}, {0, 2, 1, 0}, {0, 0, 0, 0}, {0, 0, 15, 0},
            {0, 0, 1, -1}, {0, 0, 1, 1000}};
        for (int[] w : wrong) {
            due.is("note, wrong", x.note(w[0], w[1], w[2], w[3]), BAD);
        }
        due.is("refused ones are not kept", x.count(5), 2);
        for (int i = 2; i < 24; i++) {
            due.is("note", x.note(0, 0, 1, 1), i);
        }
        due.is("note, full", x.note(0, 0, 1, 1), FULL);
        due.is("note, full and nothing told", x.note(0, 1, 1, 1), FULL);
        due.is("note, full and wrong", x.note(0, 2, 1, 1), BAD);
    }

    private static void noteOf() {
        NextFigures x = Scene.daily("same 1;mean 1;", 10, 20);
        x.note(0, 1, 2, 5);
        int[] first = {0, 1, 1, 3, 20, 5, NONE, NONE, 0};
        for (int what = 0; what < 9; what++) {
            due.is("noteOf, not come " + what, x.noteOf(0, what), first[what]);
        }
        Due.tell(x, "");
        x.now(3);
        x.figure(0, 1, 99);
        x.figure(0, 3, 26);
        int[] came = {0, 1, 1, 3, 20, 5, 26, 0, 0};
        for (int what = 0; what < 9; what++) {
            due.is("noteOf, came " + what, x.noteOf(0, what), came[what]);
        }
        x.figure(0, 3, 15);
        due.is("noteOf, told anew", x.noteOf(0, 6), 15);
        due.is("noteOf, held", x.noteOf(0, 7), 1);
        x.figure(0, 3, 25);
        due.is("noteOf, held", x.noteOf(0, 7), 1);
        x.figure(0, 3, NONE);
        due.is("noteOf, a gap again", x.noteOf(0, 7), NONE);
        x.acted(0);
        due.is("noteOf, acted on", x.noteOf(0, 8), 1);
        due.is("noteOf, wrong", x.noteOf(-1, 0), BAD);
        due.is("noteOf, wrong", x.noteOf(1, 0), BAD);
        due.is("noteOf, wrong", x.noteOf(0, -1), BAD);
        due.is("noteOf, wrong", x.noteOf(0, 9), BAD);
        x = Scene.daily("same 1;", 10);
        x.now(63);
        x.figure(0, 63, 4);
        x.note(0, 0, 14, 9);
        due.is("noteOf, behind all days", x.noteOf(0, 3), 77);
        due.is("noteOf, behind all days", x.noteOf(0, 6), NONE);
    }

    private static void acted() {
        NextFigures x = Scene.daily("same 1;", 10);
        x.note(0, 0, 1, 0);
        x.note(0, 0, 1, 0);
        due.is("acted, none", x.acted(2), BAD);
        due.is("acted, none", x.acted(-1), BAD);
        due.is("acted", x.acted(1), 1);
        due.is("acted again", x.acted(1), STATE);
        x.now(1);
        due.is("acted on another", x.noteOf(0, 8), 0);
        x.figure(0, 1, 3);
        due.is("acted, it came", x.acted(0), STATE);
        due.is("acted, it came", x.noteOf(0, 8), 0);
        x.figure(0, 1, NONE);
        due.is("acted, it did not come after all", x.acted(0), 1);
    }

    private static void notes() {
        NextFigures x = Scene.daily("same 1;", 10);
        x.note(0, 0, 1, 2);
        x.note(0, 0, 1, 1);
        x.note(0, 0, 1, 2);
        x.note(0, 0, 1, 1);
        x.note(0, 0, 2, 999);
        x.acted(0);
        x.acted(1);
        for (int what = 0; what < 4; what++) {
            due.is("notes, none came", x.notes(what), 0);
        }
        x.now(1);
        x.figure(0, 1, 12);
        int[] want = {4, 2, 2, 1};
        for (int what = 0; what < 4; what++) {
            due.is("notes " + what, x.notes(what), want[what]);
        }
        due.is("notes, wrong", x.notes(-1), BAD);
        due.is("notes, wrong", x.notes(4), BAD);
    }

    private static void sheet() {
        NextFigures x = new NextFigures();
        due.is("sheet of 64", x.sheet(0, 0, 64), 1);
        due.is("its cells", x.count(8), 64);
        due.is("sheet of 0", x.sheet(0, 2, 0), 1);
        due.is("its cells", x.count(8), 0);
        x.sheet(0, 1, 3);
        x.lay(0, 2, 7);
        due.is("size below 0", x.sheet(0, 1, -1), -14);
        due.is("size below 0", x.sheet(0, 1, Integer.MIN_VALUE), -14);
        due.is("as it was", x.count(8), 3);
        x.now(9);
        due.is("as it was", x.read(0, 0, 0, 1, 0, 3), 3);
        due.is("as it was", x.known(0, 2, 9), 7);
        x.sheet(0, 1, 3);
        due.is("a new row of cells 0", x.read(0, 0, 0, 1, 0, 3), 1);
        due.is("a new row of cells 0", x.known(0, 2, 9), 0);
        x.sheet(1, 1, 3);
        x.lay(1, 0, 8);
        x.sheet(0, 1, 64);
        x.sheet(0, 1, 3);
        x.read(0, 4, 1, 1, 0, 1);
        due.is("another sheet is as it was", x.known(0, 4, 9), 8);
        int[][] wrong = {{-1, 0, 1}, {4, 0, 1}, {0, -1, 1}, {0, 3, 1}, {0, 0, 65}, {4, 0, -1}, {0, 3, -1}};
        for (int[] w : wrong) {
            due.is("sheet, wrong", x.sheet(w[0], w[1], w[2]), BAD);
        }
        due.is("sheet, wrong: as it was", x.count(8), 3);
    }

    private static void lay() {
        NextFigures x = new NextFigures();
        x.now(9);
        due.is("lay on nothing", x.lay(3, 0, 1), -11);
        due.is("lay on nothing, anywhere", x.lay(3, -1, 1), -11);
        int[][] cut = {{0, 300, 44}, {0, 128, NONE}, {0, 127, 127}, {0, -1, NONE}, {1, 65546, 10}, {1, 32768, NONE},
            {1, 300, 300}, {2, 999, 999}, {2, Integer.MIN_VALUE, NONE}, {0, 0x7fffff05, 5}};
        for (int[] c : cut) {
            x.sheet(1, c[0], 2);
            due.is("lay", x.lay(1, 1, c[1]), 1);
            x.read(0, 0, 1, c[0], 1, 1);
            due.is("lay, lowest bits of " + c[1], x.known(0, 0, 9), c[2]);
        }
        due.is("lay, index", x.lay(1, 2, 0), -12);
        due.is("lay, index", x.lay(1, -1, 0), -12);
        due.is("lay, index", x.lay(1, Integer.MAX_VALUE, 0), -12);
        x.sheet(1, 0, 0);
        due.is("lay, no cells", x.lay(1, 0, 0), -12);
        due.is("lay, wrong", x.lay(-1, 0, 0), BAD);
        due.is("lay, wrong", x.lay(4, 0, 0), BAD);
    }

    private static void read() {
        NextFigures x = new NextFigures();
        x.now(9);
        x.sheet(0, 2, 5);
        int[] cells = {3, -1, 999, -70000, 0};
        for (int i = 0; i < 5; i++) {
            x.lay(0, i, cells[i]);
        }
        x.figure(2, 6, 5);
        due.is("read", x.read(2, 5, 0, 2, 0, 5), 4);
        int[] want = {3, NONE, 999, NONE, 0};
        for (int i = 0; i < 5; i++) {
            due.is("read, day " + (5 + i), x.known(2, 5 + i, 9), want[i]);
        }
        due.is("read, told now", x.known(2, 5, 8), NONE);
        due.is("tellings", x.count(1), 5);
        due.is("read, known so already", x.read(2, 5, 0, 2, 0, 5), 0);
        due.is("tellings", x.count(1), 5);
        due.is("read from another cell", x.read(2, 0, 0, 2, 4, 1), 1);
        due.is("read, beyond the cells", x.read(2, 0, 0, 2, 2, 5), 2);
        due.is("read, beyond the cells", x.torn(), 2);
        due.is("the days behind are as they were", x.known(2, 5, 9), 3);
        due.is("read, no days", x.read(0, 0, 0, 2, 0, 0), 0);
        due.is("read, no days, of nothing", x.read(0, 0, 1, 2, -5, 0), 0);
        due.is("read, no days behind NOW", x.read(0, 10, 0, 2, 0, 0), 0);
        int[][] wrong = {{-1, 0, 0, 2, 0, 1}, {4, 0, 0, 2, 0, 1}, {0, -1, 0, 2, 0, 1}, {0, 64, 0, 2, 0, 1},
            {0, 0, -1, 2, 0, 1}, {0, 0, 4, 2, 0, 1}, {0, 0, 0, -1, 0, 1}, {0, 0, 0, 3, 0, 1}, {0, 0, 0, 2, 0, -1},
            {0, 0, 0, 2, 0, 65}, {0, 9, 0, 2, 0, 2}, {0, 10, 0, 2, 0, 1}, {0, 0, 0, 2, 0, 11},
            {0, 10, 1, 2, 0, 1}, {0, Integer.MAX_VALUE, 0, 2, 0, 2}};
        for (int[] w : wrong) {
            due.is("read, wrong", x.read(w[0], w[1], w[2], w[3], w[4], w[5]), BAD);
        }
    }

    private static void readRefused() {
        NextFigures x = new NextFigures();
        x.now(63);
        x.sheet(0, 2, 64);
        x.lay(0, 5, 1000);
        due.is("read, a cell above 999", x.read(0, 0, 0, 2, 3, 10), -22);
        due.is("then none was told", x.count(1), 0);
        due.is("read ahead of that cell", x.read(0, 0, 0, 2, 0, 5), 5);
        x.lay(0, 5, Integer.MAX_VALUE);
        due.is("read, a cell far above 999", x.read(0, 0, 0, 2, 5, 1), -20);
        x.lay(0, 5, 0);
        due.is("read all", x.read(1, 0, 0, 2, 0, 64), 64);
        due.is("read all", x.read(2, 0, 0, 2, 0, 64), 64);
        due.is("read all", x.read(3, 0, 0, 2, 0, 64), 64);
        due.is("tellings", x.count(1), 197);
        due.is("read, four are too many", x.read(0, 5, 0, 2, 0, 4), FULL);
        due.is("then none was told", x.count(1), 197);
        x.lay(0, 4, 1000);
        due.is("read, full is met first", x.read(0, 5, 0, 2, 0, 5), FULL);
        due.is("read, the cell is met first", x.read(0, 5, 0, 2, 1, 5), -23);
        x.sheet(1, 0, 3);
        due.is("read, the machine refuses ahead of full", x.read(0, 5, 1, 0, 0, 9), 3);
        due.is("read, the machine refuses ahead of full", x.torn(), 2);
        due.is("tellings", x.count(1), 200);
        due.is("read, full", x.read(0, 8, 1, 0, 0, 1), FULL);
        due.is("read, known so already", x.read(0, 5, 1, 0, 0, 3), 0);
    }

    private static void torn() {
        NextFigures x = new NextFigures();
        x.now(9);
        x.sheet(0, 1, 2);
        due.is("read of nothing", x.read(0, 0, 1, 1, 0, 1), 0);
        due.is("torn, null", x.torn(), 1);
        due.is("read of another lane", x.read(0, 0, 0, 0, 0, 1), 0);
        due.is("torn, cast", x.torn(), 3);
        due.is("wrong ones do not come to an end", x.read(4, 0, 0, 1, 5, 1), BAD);
        due.is("torn, as it was", x.torn(), 3);
        due.is("cast ahead of index", x.read(0, 0, 0, 2, 7, 1), 0);
        due.is("torn, cast", x.torn(), 3);
        due.is("null ahead of index", x.read(0, 0, 1, 2, 7, 1), 0);
        due.is("torn, null", x.torn(), 1);
        for (int f : new int[] {-1, 2, Integer.MAX_VALUE, Integer.MIN_VALUE}) {
            due.is("read, index", x.read(0, 0, 0, 1, f, 3), 0);
            due.is("torn, index", x.torn(), 2);
        }
        x.lay(0, 0, 1000);
        due.is("read, refused", x.read(0, 0, 0, 1, 0, 1), -20);
        due.is("torn, as it was", x.torn(), 2);
        due.is("read", x.read(0, 0, 0, 1, 1, 1), 1);
        due.is("torn, none", x.torn(), 0);
        x.lay(1, 0, 0);
        x.sheet(0, 0, -1);
        due.is("torn is of read alone", x.torn(), 0);
    }

    private static void count() {
        NextFigures x = Scene.daily("same 1;mean 2;", 10, 20, NONE, 30);
        x.figure(1, 0, NONE);
        x.figure(2, 0, 8);
        x.mark(0, 5, true);
        x.mark(0, 6, true);
        x.mark(1, 6, true);
        x.note(0, 0, 1, 1);
        Due.lay(x, "abc");
        x.sheet(1, 0, 9);
        int[] want = {3, 5, 2, 1, 2, 1, 12, 3, NONE};
        for (int what = 0; what < want.length; what++) {
            due.is("count " + what, x.count(what), want[what]);
        }
        x.sheet(0, 0, 9);
        due.is("count 8", x.count(8), 9);
        due.is("count, wrong", x.count(-1), BAD);
        due.is("count, wrong", x.count(9), BAD);
    }
}
