/** The edges of the document's terms, one method a sentence or two; the answers are reckoned by hand. */
final class EdgesTest {
    private static final int BAD = -1, STATE = -2, FULL = -3, NONE = -4;
    private static final int FAR_NONE = -100004;
    private static final String[] NAMES = {"same", "mean", "step", "like", "joined"};
    private static final int[] LEAST = {1, 1, 0, 1, 1};
    private static final int[] MOST = {14, 20, 10, 8, 30};
    private static final String SIX = "same 1;same 2;same 3;same 4;same 5;same 6;";

    private static Due due = new Due("EdgesTest");

    private EdgesTest() {
    }

    public static void main(String[] args) {
        firstAndLastDay();
        knownUpToADay();
        tellings();
        feastsAreKnownAlways();
        countsAtTheirMost();
        callsUpToThe512th();
        tapeOf120Bytes();
        bytesBehindTheEnd();
        namesLetterByLetter();
        everyByteAlone();
        everyByteBehindANumber();
        everyNumber();
        tokensAreAsLongAsMayBe();
        linesUpToTheSeventh();
        joinedIsNoFirstLine();
        aTextTellsAll();
        same();
        mean();
        step();
        stepIsDividedDown();
        stepIsNotCut();
        like();
        joinedDays();
        joinedWeights();
        joinedWithoutOne();
        missAtTheFirstDays();
        greatestMiss();
        bestIsExact();
        fitAtTheGridsEnds();
        fitOfSeveral();
        fitIsTheBestOfAll();
        span();
        hold();
        going();
        agreeLeftOver();
        agreeAtTheEnds();
        numberAtTheEnds();
        worthAndDealt();
        dealtOf16Days();
        changeAtTheEnds();
        notesUpTo24();
        heldAtTheWidth();
        cameOrNot();
        notesOfEveryShop();
        cellsOfSheets();
        newCells();
        bitsOfCells();
        cellsAsFigures();
        readAtTheEnds();
        readUpTo200Tellings();
        torn();
        due.end();
    }

    private static int[] row(int size, int v) {
        int[] figures = new int[size];
        java.util.Arrays.fill(figures, v);
        return figures;
    }

    /** By same 1, AHEAD 1, day i has the MISS i, with the FIGURE below and above by turns. */
    private static int[] growing(int size) {
        int[] figures = new int[size];
        for (int day = 0; day < size; day++) {
            figures[day] = day % 2 == 0 ? 500 - day / 2 : 501 + day / 2;
        }
        return figures;
    }

    // ---- rows

    private static void firstAndLastDay() {
        NextFigures x = new NextFigures();
        due.is("day 0 on day 0", x.figure(0, 0, 0), NONE);
        due.is("the next day has not come", x.figure(0, 1, 0), -5);
        x.now(63);
        due.is("day 63 on day 63", x.figure(3, 63, 999), NONE);
        due.is("day 0 on day 63", x.figure(0, 0, 5), 0);
        due.is("now, the last day again", x.now(63), 63);
        due.is("now, there is no day 64", x.now(64), BAD);
        due.is("known, the last day ahead of it", x.known(3, 63, 62), NONE);
        due.is("known, the last day", x.known(3, 63, 63), 999);
        due.is("known, the first day, then", x.known(0, 0, 62), 0);
        due.is("known, the first day, now", x.known(0, 0, 63), 5);
    }

    private static void knownUpToADay() {
        NextFigures x = new NextFigures();
        x.now(4);
        x.figure(0, 2, 1);
        x.figure(0, 2, 2);
        x.now(5);
        x.figure(0, 2, NONE);
        x.now(6);
        x.figure(0, 2, 3);
        int[] want = {NONE, NONE, NONE, NONE, 2, NONE, 3, 3};
        for (int on = 0; on < want.length; on++) {
            due.is("known on " + on, x.known(0, 2, on), want[on]);
        }
        due.is("known on a day that has not come", x.known(0, 2, 63), 3);
        due.is("a gap is told where it is one", x.figure(1, 6, NONE), NONE);
        due.is("and is a telling", x.count(1), 5);
    }

    private static void tellings() {
        NextFigures x = new NextFigures();
        for (int i = 0; i < 199; i++) {
            x.figure(i % 4, 0, i);
        }
        due.is("199 tellings", x.count(1), 199);
        due.is("the 200th", x.figure(0, 0, 0), 196);
        due.is("200 tellings", x.count(1), 200);
        due.is("the 201st", x.figure(0, 0, 1), -7);
        x.now(1);
        due.is("nor on a later day", x.figure(0, 1, 1), -7);
        due.is("200 tellings", x.count(1), 200);
        due.is("as it was", x.known(0, 0, 1), 0);
    }

    private static void feastsAreKnownAlways() {
        NextFigures x = Scene.daily("like 1;", 5, 0, 0, 0, 0, 0, 0, 8, 0);
        due.is("like, no feasts", x.tells(0, 0, 1, 6), 5);
        due.is("miss, no feasts", x.miss(0, 0, 6, 7), 3);
        x.mark(0, 7, true);
        due.is("a feast marked behind that day", x.tells(0, 0, 1, 6), NONE);
        due.is("a feast marked behind that day", x.miss(0, 0, 6, 7), NONE);
        x.mark(0, 0, true);
        due.is("both are feasts", x.miss(0, 0, 6, 7), 3);
        x.mark(0, 7, false);
        due.is("it is none after all", x.miss(0, 0, 6, 7), NONE);
    }

    private static void countsAtTheirMost() {
        NextFigures x = new NextFigures();
        for (int day = 0; day < 64; day++) {
            x.mark(0, day, true);
            x.mark(1, 63 - day, true);
        }
        due.is("gaps on day 0", x.count(6), 4);
        x.now(63);
        int[] want = {63, 0, 64, 64, 0, 0, 256, 0, NONE};
        for (int what = 0; what < want.length; what++) {
            due.is("count " + what, x.count(what), want[what]);
        }
        x.figure(3, 63, 0);
        due.is("one gap fewer", x.count(6), 255);
        x.figure(3, 63, NONE);
        due.is("a gap again", x.count(6), 256);
        x.sheet(0, 0, 0);
        due.is("no cells are not nothing", x.count(8), 0);
        due.is("full: tellings", Scene.full().count(1), 200);
        due.is("full: tellers", Scene.full().count(4), 6);
        due.is("full: notes", Scene.full().count(5), 24);
        due.is("full: bytes", Scene.full().count(7), 120);
    }

    private static void callsUpToThe512th() {
        NextFigures x = new NextFigures();
        for (int i = 0; i < 510; i++) {
            x.figure(0, 0, i);
        }
        due.is("the 511th call", x.count(1), 200);
        due.is("the 512th call", x.known(0, 0, 0), 199);
    }

    // ---- the tape, texts

    private static void tapeOf120Bytes() {
        NextFigures x = new NextFigures();
        due.is("a text of 120 bytes", Due.tell(x, " ".repeat(112) + "mean 20;"), 1);
        due.is("its number", x.teller(0, 1), 20);
        due.is("a fault in the last place", Due.tell(x, " ".repeat(119) + "?"), -129);
        due.is("its fault", x.fault(), 1);
        due.is("a number too long at the end", Due.tell(x, " ".repeat(112) + "mean 200"), -127);
        due.is("the end of a full tape", Due.tell(x, " ".repeat(112) + "mean  20"), -130);
        due.is("its fault", x.fault(), 2);
        for (int length = 113; length <= 120; length++) {
            Due.lay(x, " ".repeat(length));
            due.is("feed behind " + length, x.feed(0), FULL);
            due.is("bytes", x.end(0), length);
        }
        for (int length = 0; length <= 112; length += 7) {
            Due.lay(x, " ".repeat(length));
            due.is("feed behind " + length, x.feed(0), length + 8);
            due.is("bytes", x.end(0), length + 8);
        }
        x.feed(Long.MIN_VALUE);
        due.is("the highest byte first, without sign", x.text(), -10);
        x.feed(Due.word(" same 1 ") | 255);
        due.is("the lowest byte last, without sign", x.text(), -17);
        due.is("its fault", x.fault(), 1);
    }

    /** What end() took off is not read. */
    private static void bytesBehindTheEnd() {
        Object[][] cuts = {{"samexxxx", 4, -14}, {"mean 12;", 6, -16}, {"mean 200", 7, -17}, {"same 1;?", 7, 1},
            {"same 1;;", 7, 1}, {"same 1;x", 7, 1}, {"same 1;1", 7, 1}, {"same 1 ;", 7, -17}, {"same    ", 4, -14}};
        for (Object[] c : cuts) {
            NextFigures x = new NextFigures();
            x.feed(Due.word("" + c[0]));
            x.end((Integer) c[1]);
            due.is(c[0] + " up to " + c[1], x.text(), (Integer) c[2]);
        }
        NextFigures x = new NextFigures();
        due.is("a name up to the last place", Due.tell(x, " ".repeat(116) + "same"), -130);
        due.is("a number up to the last place", Due.tell(x, " ".repeat(114) + "same 1"), -130);
        due.is("blanks up to the last place", Due.tell(x, " ".repeat(120)), 0);
    }

    private static void namesLetterByLetter() {
        for (String name : NAMES) {
            for (int i = 0; i < name.length(); i++) {
                for (char letter = 'a'; letter <= 'z'; letter++) {
                    NextFigures x = new NextFigures();
                    String other = name.substring(0, i) + letter + name.substring(i + 1);
                    int place = other.equals(name) ? 8 + name.length() : 8;
                    due.is(other, Due.tell(x, "like 1; " + other + ";"), -10 - place);
                    due.is(other, x.fault(), 2);
                }
            }
        }
    }

    private static boolean isIn(int sign, char least, char most) {
        return sign >= least && sign <= most;
    }

    private static void everyByteAlone() {
        for (int sign = 0; sign < 256; sign++) {
            NextFigures x = new NextFigures();
            boolean isToken = isIn(sign, 'a', 'z') || isIn(sign, '0', '9') || sign == ';';
            int fault = sign == 32 ? 0 : isToken ? 2 : 1;
            due.is("byte " + sign, Due.tell(x, "" + (char) sign), fault == 0 ? 0 : -10);
            due.is("fault of byte " + sign, x.fault(), fault);
        }
    }

    private static void everyByteBehindANumber() {
        for (int sign = 0; sign < 256; sign++) {
            NextFigures x = new NextFigures();
            int answer = -16;
            int fault = 1;
            if (isIn(sign, '0', '9')) {
                answer = sign <= '4' ? 1 : -15;
                fault = sign <= '4' ? 0 : 3;
            } else if (sign == 32) {
                answer = 1;
                fault = 0;
            } else if (isIn(sign, 'a', 'z') || sign == ';') {
                answer = sign == ';' ? -17 : -16;
                fault = 2;
            }
            due.is("same 1 and byte " + sign, Due.tell(x, "same 1" + (char) sign + ";"), answer);
            due.is("fault of it", x.fault(), fault);
        }
    }

    private static void everyNumber() {
        for (int kind = 0; kind < 5; kind++) {
            String ahead = (kind == 4 ? "like 1;" : "") + NAMES[kind] + " ";
            String behind = kind == 2 ? " 0;" : ";";
            int lines = kind == 4 ? 2 : 1;
            for (int v = 0; v < 100; v++) {
                boolean is = v >= LEAST[kind] && v <= MOST[kind];
                number(ahead, "" + v, behind, is ? lines : 0, is ? 0 : 3, lines - 1, v);
                number(ahead, v < 10 ? "0" + v : "" + v, behind, is ? lines : 0, is ? 0 : 3, lines - 1, v);
                number(ahead, "0" + (v < 10 ? "0" : "") + v, behind, 0, 1, 0, 0);
            }
            number(ahead, "100", behind, 0, 1, 0, 0);
        }
        for (int v = 0; v < 100; v++) {
            NextFigures x = new NextFigures();
            due.is("step 10 " + v, Due.tell(x, "step 10 " + v + ";"), v <= 10 ? 1 : -18);
            due.is("step 10 " + v + ": fault", x.fault(), v <= 10 ? 0 : 3);
            due.is("step 10 " + v + ": its second", x.teller(0, 2), v <= 10 ? v : BAD);
        }
    }

    private static void number(String ahead, String number, String behind, int lines, int fault, int k, int v) {
        NextFigures x = new NextFigures();
        String text = ahead + number + behind;
        due.is(text, Due.tell(x, text), fault == 0 ? lines : -10 - ahead.length());
        due.is(text + " fault", x.fault(), fault);
        due.is(text + " number", x.teller(k, 1), fault == 0 ? v : BAD);
    }

    private static void tokensAreAsLongAsMayBe() {
        NextFigures x = new NextFigures();
        due.is("no blanks", Due.tell(x, "same14;step10 1;joined3;"), 3);
        due.is("no blanks", x.teller(1, 1), 10);
        Object[][] faults = {{"same 1 4;", -17, 2}, {"step 10;", -17, 2}, {"step 1 0 0;", -19, 2},
            {"samesame 1;", -10, 2}, {"s ame 1;", -10, 2}, {"step 101;", -15, 1}, {"step 1 101;", -17, 1},
            {"same 1 ;;", -18, 2}, {"same;1", -14, 2}, {"same 1same 1;", -16, 2}, {"joinedd 1;", -10, 2},
            {"joine 1;", -10, 2}, {"a", -10, 2}, {"zz 1;", -10, 2}, {"12", -10, 2}, {"123", -10, 1},
            {"same same?", -15, 2}, {"same ?", -15, 1}, {"same 0?", -15, 3}, {"same 1?", -16, 1},
            {"sam?", -10, 2}, {"like 9 9;", -15, 3}, {"step 11 11;", -15, 3}, {"step 10 11 11;", -18, 3}};
        for (Object[] f : faults) {
            due.is("" + f[0], Due.tell(x, "" + f[0]), (Integer) f[1]);
            due.is("fault of " + f[0], x.fault(), (Integer) f[2]);
            due.is("those that were told stay", x.count(4), 3);
        }
    }

    private static void linesUpToTheSeventh() {
        NextFigures x = new NextFigures();
        due.is("six lines", Due.tell(x, SIX), 6);
        for (int k = 0; k < 6; k++) {
            due.is("numbered as they are told", x.teller(k, 1), k + 1);
        }
        due.is("no seventh", x.teller(6, 1), BAD);
        due.is("six lines and blanks", Due.tell(x, SIX + "   "), 6);
        due.is("a seventh", Due.tell(x, SIX + "like 1;"), -10 - 42);
        due.is("a seventh behind blanks", Due.tell(x, SIX + "   like 1;"), -10 - 45);
        due.is("its fault", x.fault(), 4);
        due.is("a seventh is met ahead of what is in it", Due.tell(x, SIX + "like 9?"), -10 - 42);
        due.is("its fault", x.fault(), 4);
        due.is("a seventh that is joined", Due.tell(x, SIX + "joined 1;"), -10 - 42);
        due.is("its fault", x.fault(), 4);
        due.is("a fault in the sixth is met first", Due.tell(x, "like 1;".repeat(5) + "like 9;like 1;"), -10 - 40);
        due.is("its fault", x.fault(), 3);
        due.is("what begins no line is no seventh line", Due.tell(x, SIX + ";"), -10 - 42);
        due.is("its fault", x.fault(), 2);
        due.is("what is no token is no seventh line", Due.tell(x, SIX + "999"), -10 - 42);
        due.is("its fault", x.fault(), 1);
    }

    private static void joinedIsNoFirstLine() {
        NextFigures x = new NextFigures();
        due.is("joined as the second", Due.tell(x, "same 1;joined 30;"), 2);
        due.is("joined behind joined", Due.tell(x, "same 1;joined 30;joined 1;"), 3);
        due.is("joined as the first, where tellers are", Due.tell(x, " joined 1;"), -11);
        due.is("its fault", x.fault(), 5);
        due.is("met ahead of its number", Due.tell(x, "joined 0;"), -10);
        due.is("its fault", x.fault(), 5);
        due.is("those that were told stay", x.teller(2, 1), 1);
    }

    private static void aTextTellsAll() {
        NextFigures x = new NextFigures();
        Due.tell(x, SIX);
        due.is("one line", Due.tell(x, "step 3 4;"), 1);
        due.is("one teller", x.count(4), 1);
        due.is("it is the first", x.teller(0, 2), 4);
        due.is("no second", x.teller(1, 0), BAD);
        due.is("one without a second number", Due.tell(x, "like 5;"), 1);
        due.is("its second is 0", x.teller(0, 2), 0);
        due.is("blanks alone tell none", Due.tell(x, "        "), 0);
        due.is("no teller", x.teller(0, 0), BAD);
        due.is("no fault", x.fault(), 0);
        x = Scene.daily("same 1;mean 2;", 10, 20, 15);
        due.is("the second is the better one", x.best(0, 1, 2, 2), 1);
        Due.tell(x, "same 1;");
        due.is("it is no more", x.best(0, 1, 2, 2), 0);
    }

    // ---- tellers

    private static void same() {
        int[] figures = new int[14];
        for (int day = 0; day < 14; day++) {
            figures[day] = 100 + day;
        }
        NextFigures x = Scene.daily("same 14;same 1;same 7;", figures);
        due.is("same 14: day 14 as day 0", x.tells(0, 0, 13, 1), 100);
        due.is("same 14: day 13 as no day", x.tells(0, 0, 12, 1), NONE);
        due.is("same 14: day 27 as day 13", x.tells(0, 0, 13, 14), 113);
        due.is("same 14: day 14 on day 0", x.tells(0, 0, 0, 14), 100);
        due.is("same 14: day 13 on day 0", x.tells(0, 0, 0, 13), NONE);
        due.is("same 1: the latest that there is", x.tells(0, 1, 13, 14), 113);
        due.is("same 1: the latest that there is", x.tells(0, 1, 0, 14), 100);
        due.is("same 7: two weeks ahead", x.tells(0, 2, 13, 8), 107);
        due.is("same 7: a week ahead", x.tells(0, 2, 13, 7), 113);
        x.figure(0, 0, NONE);
        due.is("same 14: a gap, and no day ahead of it", x.tells(0, 0, 13, 1), NONE);
        due.is("same 14: another day", x.tells(0, 0, 13, 2), 101);
        x.now(63);
        x.figure(0, 63, 63);
        due.is("same 14 on the last day", x.tells(0, 0, 63, 14), 63);
        due.is("same 7 on the last day", x.tells(0, 2, 63, 14), 63);
        due.is("same 7 over gaps", x.tells(0, 2, 63, 1), 108);
    }

    private static void mean() {
        int[] figures = new int[21];
        for (int day = 0; day < 21; day++) {
            figures[day] = day;
        }
        NextFigures x = Scene.daily("mean 20;mean 1;mean 2;", figures);
        due.is("mean 20 of 19", x.tells(0, 0, 18, 1), NONE);
        due.is("mean 20 of 20: 190 by 20", x.tells(0, 0, 19, 1), 9);
        due.is("mean 20 of 21: 210 by 20", x.tells(0, 0, 20, 14), 10);
        due.is("mean 1 of one", x.tells(0, 1, 0, 1), 0);
        due.is("mean 2 of one", x.tells(0, 2, 0, 1), NONE);
        due.is("mean 2, divided down", x.tells(0, 2, 1, 1), 0);
        x.figure(0, 5, NONE);
        due.is("mean 20 of 20 and a gap: 205 by 20", x.tells(0, 0, 20, 1), 10);
        x.figure(0, 6, NONE);
        due.is("mean 20 of 19 and two gaps", x.tells(0, 0, 20, 1), NONE);
        due.is("mean 20 of all the greatest", Scene.daily("mean 20;", row(20, 999)).tells(0, 0, 19, 1), 999);
    }

    private static void step() {
        NextFigures x = Scene.daily("step 10 10;step 0 0;step 10 0;step 0 10;", 997, 998);
        due.is("999 is told", x.tells(0, 0, 1, 1), 999);
        due.is("1000 is 999", x.tells(0, 0, 1, 2), 999);
        due.is("step 0 0 stays", x.tells(0, 1, 1, 14), 997);
        due.is("step 10 0 goes along", x.tells(0, 2, 1, 14), 998);
        due.is("step 0 10 stays", x.tells(0, 3, 1, 14), 997);
        due.is("one figure", x.tells(0, 0, 0, 1), NONE);
        x = Scene.daily("step 10 10;", 3, 2);
        due.is("1 is told", x.tells(0, 0, 1, 1), 1);
        due.is("0 is told", x.tells(0, 0, 1, 2), 0);
        due.is("-1 is 0", x.tells(0, 0, 1, 3), 0);
        due.is("-12 is 0", x.tells(0, 0, 1, 14), 0);
        x = Scene.daily("step 10 10;", NONE, 5, NONE, NONE, 9, NONE);
        due.is("one figure and gaps", x.tells(0, 0, 3, 1), NONE);
        due.is("two figures and gaps: LEVEL 900, SLOPE 400", x.tells(0, 0, 4, 1), 13);
        due.is("a gap: LEVEL 1300", x.tells(0, 0, 5, 1), 17);
        x.figure(0, 4, NONE);
        due.is("one figure again", x.tells(0, 0, 5, 1), NONE);
    }

    private static void stepIsDividedDown() {
        // LEVEL 200, SLOPE 0; 160, -8; LEVEL 1416 by 10 is 141, SLOPE -102 by 10 is -11; 97 by 100
        due.is("SLOPE below 0", Scene.daily("step 2 2;", 2, 0, 1).tells(0, 0, 2, 4), 0);
        due.is("SLOPE below 0", Scene.daily("step 2 2;", 2, 0, 1).tells(0, 0, 2, 3), 1);
        // 200, 0; 40, -64; LEVEL -48 by 10 is -5, SLOPE -564 by 10 is -57; 147, 26; 199 by 100
        due.is("LEVEL below 0", Scene.daily("step 8 4;", 2, 0, 0, 2).tells(0, 0, 3, 2), 1);
    }

    /** With three gaps ahead of each 0, SLOPE is -3 times what it was: an int would be cut on day 29. */
    private static void stepIsNotCut() {
        int[] figures = row(62, NONE);
        figures[0] = 0;
        figures[1] = 999;
        for (int day = 5; day < 62; day += 4) {
            figures[day] = 0;
        }
        NextFigures x = Scene.daily("step 10 10;", figures);
        for (int day = 5; day < 62; day += 4) {
            due.is("step on day " + day, x.tells(0, 0, day, 1), day % 8 == 1 ? 999 : 0);
            due.is("step on day " + (day - 1), x.tells(0, 0, day - 1, 1), day % 8 == 1 ? 0 : 999);
        }
    }

    private static void like() {
        int[] figures = row(57, NONE);
        for (int week = 0; week < 9; week++) {
            figures[7 * week] = week + 1;
        }
        NextFigures x = Scene.daily("like 8;like 1;", figures);
        due.is("like 8 of one", x.tells(0, 0, 0, 7), 1);
        due.is("like 8 of 7: 28 by 7", x.tells(0, 0, 42, 7), 4);
        due.is("like 8 of 8: 36 by 8", x.tells(0, 0, 49, 7), 4);
        due.is("like 8 of 9: 44 by 8", x.tells(0, 0, 56, 7), 5);
        due.is("like 1", x.tells(0, 1, 56, 7), 9);
        due.is("like 1, the day beside", x.tells(0, 1, 56, 1), NONE);
        due.is("like 1, the day beside", x.tells(0, 1, 56, 6), NONE);
        due.is("like 1, not the day itself", x.tells(0, 1, 55, 1), 8);
        due.is("a told day behind all days", x.tells(0, 0, 56, 14), 5);
        due.is("a told day behind all days, the next one", Scene.daily("like 1;", row(64, 3)).tells(0, 0, 63, 1), 3);
        x.mark(0, 63, true);
        due.is("the last day is a feast", x.tells(0, 0, 56, 7), NONE);
        due.is("a day behind all days is none", x.tells(0, 0, 56, 14), 5);
        x.mark(0, 0, true);
        due.is("the first is one, too", x.tells(0, 0, 56, 7), 1);
        due.is("the others are none: 44 by 8", x.tells(0, 0, 56, 14), 5);
        x.mark(0, 56, true);
        due.is("the others are none: 35 by 7", x.tells(0, 0, 56, 14), 5);
        x.mark(0, 49, true);
        due.is("the others are none: 27 by 6", x.tells(0, 0, 56, 14), 4);
    }

    private static void joinedDays() {
        int[] figures = row(32, 0);
        figures[0] = 900;
        NextFigures x = Scene.daily("same 1;joined 30;joined 29;joined 1;", figures);
        due.is("30 days with the first: 900 by 30", x.weight(0, 1, 0, 30, 1), 32);
        due.is("30 days without the first", x.weight(0, 1, 0, 31, 1), 1000);
        due.is("29 days with the first: 900 by 29", x.weight(0, 2, 0, 29, 1), 31);
        due.is("29 days without the first", x.weight(0, 2, 0, 30, 1), 1000);
        due.is("the first day alone", x.weight(0, 3, 0, 1, 1), 1);
        due.is("the next day alone", x.weight(0, 3, 0, 2, 1), 1000);
        due.is("AHEAD 14, the first day", x.weight(0, 3, 0, 14, 14), 1);
        due.is("AHEAD 14, no day", x.weight(0, 3, 0, 13, 14), 0);
        x.figure(0, 31, NONE);
        due.is("a gap does not count", x.weight(0, 1, 0, 31, 1), 32);
    }

    private static void joinedWeights() {
        int[][] missAndWeight = {{0, 1000}, {1, 500}, {2, 333}, {499, 2}, {500, 1}, {998, 1}, {999, 1}};
        for (int[] w : missAndWeight) {
            NextFigures x = Scene.daily("same 1;joined 1;", 0, w[0]);
            due.is("weight by the miss " + w[0], x.weight(0, 1, 0, 1, 1), w[1]);
            due.is("tells by the miss " + w[0], x.tells(0, 1, 1, 1), w[0]);
            due.is("without a miss: 0", x.weight(0, 1, 0, 0, 1), 0);
            due.is("all weights are 0", x.tells(0, 1, 0, 1), NONE);
        }
        NextFigures x = Scene.daily("same 1;joined 2;", 0, 1, 3);
        due.is("the mean of 1 and 2, divided down", x.weight(0, 1, 0, 2, 1), 500);
        // mean 3 tells 20 and has no miss; same 1 tells 30 with 90
        x = Scene.daily("mean 3;same 1;joined 5;", 10, 20, 30);
        due.is("a weight 0", x.weight(0, 2, 0, 2, 1), 0);
        due.is("a weight 0 beside another", x.tells(0, 2, 2, 1), 30);
        due.is("one that tells nothing", x.weight(0, 2, 0, 1, 1), NONE);
        due.is("one that tells nothing beside another", x.tells(0, 2, 1, 1), 20);
    }

    /** Its past misses do not make one count that tells nothing now. */
    private static void joinedWithoutOne() {
        NextFigures x = Scene.daily("same 1;like 1;joined 5;", row(9, 10));
        due.is("like has a weight", x.weight(0, 2, 1, 8, 1), 1000);
        due.is("joined of both", x.tells(0, 2, 8, 1), 10);
        x.mark(0, 9, true);
        due.is("like tells nothing", x.weight(0, 2, 1, 8, 1), NONE);
        due.is("joined of the other", x.tells(0, 2, 8, 1), 10);
    }

    // ---- as if

    private static void missAtTheFirstDays() {
        int[] figures = new int[64];
        for (int day = 0; day < 64; day++) {
            figures[day] = 10 * day;
        }
        NextFigures x = Scene.daily("same 1;", figures);
        for (int h = 1; h <= 14; h++) {
            due.is("miss, told on day 0", x.miss(0, 0, h, h), 10 * h);
            due.is("miss, told ahead of day 0", x.miss(0, 0, h, h - 1), NONE);
            due.is("miss of the last day", x.miss(0, 0, h, 63), 10 * h);
            due.is("misses of all days", x.misses(0, 0, h, 0, 63, 0), 64 - h);
            due.is("misses up to the first", x.misses(0, 0, h, 0, h, 0), 1);
            due.is("misses ahead of the first", x.misses(0, 0, h, 0, h - 1, 0), 0);
        }
    }

    private static void greatestMiss() {
        NextFigures x = Scene.daily("same 1;", 0, 999, 0, 5, 5);
        due.is("the greatest of all", x.misses(0, 0, 1, 0, 63, 2), 999);
        due.is("its first day", x.misses(0, 0, 1, 0, 63, 3), 1);
        due.is("its first day from there on", x.misses(0, 0, 1, 2, 63, 3), 2);
        due.is("the last day alone", x.misses(0, 0, 1, 4, 4, 2), 0);
        due.is("the last day alone", x.misses(0, 0, 1, 4, 4, 3), 4);
        due.is("days that have not come", x.misses(0, 0, 1, 5, 63, 2), NONE);
        due.is("days that have not come", x.misses(0, 0, 1, 5, 63, 3), NONE);
        due.is("days that have not come", x.misses(0, 0, 1, 5, 63, 1), 0);
        due.is("the sum", x.misses(0, 0, 1, 0, 63, 1), 2003);
    }

    /** mean 2 misses by 13 and 4: 17 by 2; same 1 by 7, 9 and 9: 25 by 3, which is less by a sixth. */
    private static void bestIsExact() {
        NextFigures x = Scene.daily("mean 2;same 1;", 0, 7, 16, 7);
        due.is("best, exactly", x.best(0, 1, 0, 3), 1);
        due.is("best of the last day", x.best(0, 1, 3, 3), 0);
        due.is("best where one has a miss", x.best(0, 1, 1, 1), 1);
        due.is("best where none has", x.best(0, 1, 0, 0), NONE);
        due.is("best of several", Scene.daily("same 1;same 1;same 2;", 1, 2, 3).best(0, 1, 0, 2), 0);
        due.is("best of several behind a worse one", Scene.daily("same 2;same 1;mean 1;", 1, 2, 3).best(0, 1, 2, 2), 1);
    }

    private static void fitAtTheGridsEnds() {
        int[] weeks = row(57, NONE);
        for (int day = 0; day < 56; day += 7) {
            weeks[day] = day == 0 ? 80 : 0;
        }
        weeks[56] = 10;
        due.is("like 8", Scene.daily("", weeks).fit(0, 3, 7, 56, 56, 0), 8);
        due.is("like 8", Scene.daily("", weeks).fit(0, 3, 7, 56, 56, 2), 0);
        due.is("mean 8", Scene.daily("", 80, 0, 0, 0, 0, 0, 0, 0, 10).fit(0, 1, 1, 8, 8, 0), 8);
        due.is("no mean 9", Scene.daily("", 90, 0, 0, 0, 0, 0, 0, 0, 0, 10).fit(0, 1, 1, 9, 9, 2), 10);
        due.is("same 8", Scene.daily("", 7, 1, 1, 1, 1, 1, 1, 1, 7).fit(0, 0, 1, 8, 8, 0), 8);
        due.is("no same 9", Scene.daily("", 7, 1, 1, 1, 1, 1, 1, 1, 1, 7).fit(0, 0, 1, 9, 9, 2), 6);
        due.is("step 10 10", Scene.daily("", 10, 20, 30).fit(0, 2, 1, 2, 2, 0), 110);
        due.is("step 0 0", Scene.daily("", 10, 20, 10).fit(0, 2, 1, 2, 2, 0), 0);
        due.is("no step 10 11", Scene.daily("", 10, 20, 31).fit(0, 2, 1, 2, 2, 0), 110);
        due.is("no step 10 11", Scene.daily("", 10, 20, 31).fit(0, 2, 1, 2, 2, 2), 1);
        due.is("step of two figures", Scene.daily("", 10, 20).fit(0, 2, 1, 0, 1, 0), NONE);
        due.is("same of one figure", Scene.daily("", 10).fit(0, 0, 1, 0, 0, 0), NONE);
    }

    private static void fitOfSeveral() {
        for (int kind = 0; kind < 2; kind++) {
            due.is("the least N", Scene.daily("", row(30, 5)).fit(0, kind, 1, 20, 29, 0), 1);
        }
        due.is("the least N", Scene.daily("", row(60, 5)).fit(0, 3, 1, 56, 59, 0), 1);
        due.is("the least a and b", Scene.daily("", row(9, 5)).fit(0, 2, 1, 0, 8, 0), 0);
        // 16 is told by a 1 and b 2 (1692 by 100), and by a 2 and b 0 (1620 by 100), not by a 1 and b below 2
        due.is("the least a, then b", Scene.daily("", 18, 9, 16).fit(0, 2, 1, 0, 2, 0), 12);
        // a 1 and b 0 tell 220 by 100 and 198 by 100; a 0 tells 2 both times
        NextFigures x = Scene.daily("", 2, 4, 0, 2, 0);
        due.is("a 1, b 0", x.fit(0, 2, 2, 0, 4, 0), 10);
        due.is("a 1, b 0", x.fit(0, 2, 2, 0, 4, 2), 1);
        // same 1 has three days, same 2 two without a miss
        x = Scene.daily("", 1, 9, 1, 9);
        due.is("the most days first", x.fit(0, 0, 1, 0, 3, 0), 1);
        due.is("the most days first", x.fit(0, 0, 1, 0, 3, 1), 3);
        due.is("the most days first", x.fit(0, 0, 1, 0, 3, 2), 24);
        due.is("as many days: the least sum", x.fit(0, 0, 1, 2, 3, 0), 2);
        due.is("as many days: the least sum", x.fit(0, 0, 1, 2, 3, 1), 2);
        due.is("as many days: the least sum", x.fit(0, 0, 1, 2, 3, 2), 0);
    }

    /** With gaps, and with past figures that were told anew: some, one more, all, a gap. */
    private static NextFigures retold(String text, int anew) {
        NextFigures x = new NextFigures();
        Due.tell(x, text);
        for (int day = 0; day < 24; day++) {
            x.now(day);
            if (day != 0 && day % 5 != 3) {
                x.figure(0, day, 100 + day * day % 41);
            }
            if (day == 8) {
                x.figure(0, 0, 130);
            }
            if (day == 11) {
                x.figure(0, 10, 90);
                x.figure(0, 3, 118);
            }
            for (int past = 0; past < 15 && day == 15; past++) {
                x.figure(0, past, anew + past * past % 29 * Math.min(anew, 1));
            }
            if (day == 19) {
                x.figure(0, 17, NONE);
            }
        }
        return x;
    }

    private static void fitIsTheBestOfAll() {
        for (int kind = 0; kind < 4; kind++) {
            for (int h : new int[] {1, 4}) {
                fitIsTheBestOfAll(kind, h, 95);
                fitIsTheBestOfAll(kind, h, 0);
            }
        }
    }

    /** FIT is what misses() says of each of the grid, one told behind the other. */
    private static void fitIsTheBestOfAll(int kind, int h, int anew) {
        int[] best = {NONE, 0, 0};
        for (int n = kind == 2 ? 0 : 1; n <= (kind == 2 ? 120 : 8); n++) {
            String numbers = kind == 2 ? n / 11 + " " + n % 11 : "" + n;
            NextFigures x = retold(NAMES[kind] + " " + numbers + ";", anew);
            int days = x.misses(0, 0, h, 6, 23, 0);
            int sum = x.misses(0, 0, h, 6, 23, 1);
            if (days > best[1] || days == best[1] && sum < best[2]) {
                best = new int[] {kind == 2 ? n / 11 * 10 + n % 11 : n, days, sum};
            }
        }
        NextFigures x = retold("", anew);
        for (int what = 0; what < 3; what++) {
            due.is("fit " + kind + " AHEAD " + h, x.fit(0, kind, h, 6, 23, what), best[what]);
        }
    }

    // ---- spans

    private static void span() {
        NextFigures x = Scene.daily("same 1;", 0, 1, 3, 6, 10);
        int[][] ofFour = {{1, 1}, {25, 1}, {26, 2}, {50, 2}, {51, 3}, {75, 3}, {76, 4}, {99, 4}, {100, 4}};
        for (int[] w : ofFour) {
            due.is("span of four for " + w[0], x.span(0, 0, 1, 0, 63, w[0]), w[1]);
        }
        for (int p : new int[] {1, 50, 100}) {
            due.is("span of one for " + p, x.span(0, 0, 1, 3, 3, p), 3);
        }
        x = Scene.daily("same 1;", growing(64));
        int[][] of63 = {{1, 1}, {2, 2}, {49, 31}, {50, 32}, {98, 62}, {99, 63}, {100, 63}};
        for (int[] w : of63) {
            due.is("span of 63 for " + w[0], x.span(0, 0, 1, 0, 63, w[0]), w[1]);
        }
        due.is("the greatest span", Scene.daily("same 1;", 999, 0).span(0, 0, 1, 0, 1, 1), 999);
        due.is("the least span", Scene.daily("same 1;", 5, 5).span(0, 0, 1, 0, 1, 100), 0);
        due.is("no misses", Scene.daily("same 1;", 5).span(0, 0, 1, 0, 63, 100), NONE);
    }

    private static void hold() {
        NextFigures x = Scene.daily("same 1;", growing(64));
        for (int w : new int[] {0, 1, 62, 63, 64, 999}) {
            due.is("hold " + w, x.hold(0, 0, 1, 0, 63, w), Math.min(w, 63));
        }
        due.is("hold, the last day", x.hold(0, 0, 1, 63, 63, 63), 1);
        due.is("hold, the last day", x.hold(0, 0, 1, 63, 63, 62), 0);
        due.is("hold, no miss on day 0", x.hold(0, 0, 1, 0, 0, 999), 0);
        due.is("hold 0", Scene.daily("same 1;", 5, 5).hold(0, 0, 1, 0, 1, 0), 1);
        due.is("hold 998", Scene.daily("same 1;", 999, 0).hold(0, 0, 1, 0, 1, 998), 0);
        due.is("hold 999", Scene.daily("same 1;", 999, 0).hold(0, 0, 1, 0, 1, 999), 1);
    }

    private static void going() {
        NextFigures x = Scene.daily("same 1;", growing(64));
        due.is("two misses are too few", x.going(0, 0, 1, 0, 3, 100, 0), 0);
        due.is("three misses", x.going(0, 0, 1, 0, 4, 100, 0), 1);
        due.is("all days", x.going(0, 0, 1, 0, 63, 100, 0), 60);
        due.is("a miss that is one more is not within", x.going(0, 0, 1, 0, 63, 100, 1), 0);
        // misses 10, AHEAD 2 they are 0
        x = Scene.daily("same 1;", 0, 10, 0, 10, 0, 10, 0);
        due.is("as much as the span is within", x.going(0, 0, 1, 4, 4, 100, 1), 1);
        due.is("AHEAD 2: on day 5 those of days 2 and 3", x.going(0, 0, 2, 0, 5, 100, 0), 0);
        due.is("AHEAD 2: on day 6 those of days 2 to 4", x.going(0, 0, 2, 0, 6, 100, 0), 1);
        due.is("AHEAD 14: no day", x.going(0, 0, 14, 0, 63, 100, 0), 0);
        // misses 1, 2, 3, then 2: within for 66 of 100 (two of three), not for 33 (one of three)
        x = Scene.daily("same 1;", 0, 1, 3, 6, 8);
        due.is("two of three", x.going(0, 0, 1, 4, 4, 34, 1), 1);
        due.is("one of three", x.going(0, 0, 1, 4, 4, 33, 1), 0);
    }

    // ---- sums, numbers

    private static void agreed(String name, long numbers, int weights, int whole, int... want) {
        for (int shop = 0; shop < 4; shop++) {
            int got = new NextFigures().agree(numbers, weights, whole, shop);
            due.is("agree, " + name + ", shop " + shop, got, want[shop]);
        }
    }

    private static void agreeLeftOver() {
        agreed("none left", 0, 1010101, 4, 1, 1, 1, 1);
        agreed("one left", 0, 1010101, 5, 2, 1, 1, 1);
        agreed("two left", 0, 1010101, 6, 2, 2, 1, 1);
        agreed("three left", 0, 1010101, 7, 2, 2, 2, 1);
        agreed("none left again", 0, 1010101, 8, 2, 2, 2, 2);
        agreed("three left to take", 9009009009L, 1010101, 29, 7, 7, 7, 8);
        agreed("left to those with a weight", 0, 1000100, 1, 0, 1, 0, 0);
        agreed("left to those with a weight", 0, 1000100, 3, 0, 2, 0, 1);
        agreed("left to one", 0, 99000000, 9999, 0, 0, 0, 9999);
        agreed("left to the least, not to the heaviest", 0, 99990001, 1, 1, 0, 0, 0);
    }

    private static void agreeAtTheEnds() {
        agreed("all to nothing", 999999999999L, 99999999, 0, 0, 0, 0, 0);
        agreed("all to the greatest whole", 999999999999L, 99999999, 9999, 2500, 2500, 2500, 2499);
        agreed("the lowest is shop 0", 4003002001L, 0, 10, 1, 2, 3, 4);
        agreed("all 0", 0, 0, 0, 0, 0, 0, 0);
        agreed("no weights, one too many", 1, 0, 0, FAR_NONE, FAR_NONE, FAR_NONE, FAR_NONE);
        agreed("no weights, one too few", 0, 0, 1, FAR_NONE, FAR_NONE, FAR_NONE, FAR_NONE);
        agreed("far below 0", 999999999000L, 1, 0, -2997, 999, 999, 999);
        agreed("divided down without sign", 1, 20100, 0, 1, -1, 0, 0);
        agreed("weights 99 and 1", 0, 199, 100, 99, 1, 0, 0);
        agreed("weights 99 and 1", 0, 199, 101, 100, 1, 0, 0);
    }

    private static void number(String name, int least, int cost, int over, int under, int... figures) {
        NextFigures x = Scene.daily("same 1;", figures);
        int u = figures.length - 1;
        due.is("number, " + name, x.number(0, 0, 1, 0, u, over, under, 0), least);
        due.is("cost, " + name, x.number(0, 0, 1, 0, u, over, under, 1), cost);
    }

    private static void numberAtTheEnds() {
        number("odds 0", 0, 0, 99, 99, 0, 0);
        number("odds 999", 999, 0, 99, 99, 999, 999);
        number("odds -1", 0, 3, 3, 7, 1, 0);
        number("odds 1000", 999, 7, 3, 7, 998, 999);
        number("odds -999", 0, 99 * 999, 99, 1, 999, 0);
        number("odds 1998", 999, 99 * 999, 1, 99, 0, 999);
        // told 5, the odds 10 and 4, the costs 6 over or under alike
        number("of several the least", 4, 6, 1, 1, 1, 6, 5);
        number("one too few costs more", 10, 6, 1, 2, 1, 6, 5);
        number("one too many costs more", 4, 6, 2, 1, 1, 6, 5);
        number("99 to 1", 10, 6, 1, 99, 1, 6, 5);
        number("1 to 99", 4, 6, 99, 1, 1, 6, 5);
        NextFigures x = Scene.daily("same 1;", 1, 6, 5, NONE);
        due.is("odds of the last day that has them", x.number(0, 0, 1, 2, 63, 1, 1, 0), 4);
        due.is("no odds behind it", x.number(0, 0, 1, 3, 63, 1, 1, 0), NONE);
    }

    // ---- what moved it

    private static void worthAndDealt() {
        NextFigures x = Scene.daily("same 1;", 0, 10, 20, 30, 40);
        x.mark(1, 0, true);
        x.mark(1, 5, true);
        due.is("a deed without a miss has no worth", x.worth(0, 0, 1, 0, 63), FAR_NONE);
        due.is("a deed without a miss is not dealt", x.dealt(0, 0, 1, 0, 63, 0), NONE);
        due.is("all ways to choose none", x.dealt(0, 0, 1, 0, 63, 1), 1);
        due.is("no deeds with a miss", x.dealt(0, 0, 1, 0, 63, 3), 0);
        int[][] want = {{4, 4, 4, 1}, {6, 6, 4, 2}, {4, 4, 4, 3}, {1, 1, 4, 4}};
        for (int deeds = 1; deeds <= 4; deeds++) {
            x.mark(1, deeds, true);
            due.is("worth of " + deeds, x.worth(0, 0, 1, 0, 63), 10 * deeds);
            for (int what = 0; what < 4; what++) {
                due.is("dealt, as great, " + deeds, x.dealt(0, 0, 1, 0, 63, what), want[deeds - 1][what]);
            }
        }
        int[] none = {NONE, 1, 0, 0};
        for (int what = 0; what < 4; what++) {
            due.is("no days with a miss", x.dealt(0, 0, 1, 5, 63, what), none[what]);
        }
        // differences 5 and 4
        x = Scene.daily("same 1;", 0, 5, 9);
        x.mark(1, 1, true);
        due.is("dealt, the other is one less", x.dealt(0, 0, 1, 0, 2, 0), 1);
        x.mark(1, 1, false);
        x.mark(1, 2, true);
        due.is("dealt, the other is one more", x.dealt(0, 0, 1, 0, 2, 0), 2);
        // differences -999 and 999
        x = Scene.daily("same 1;", 999, 0, 999);
        x.mark(1, 1, true);
        due.is("worth, the least", x.worth(0, 0, 1, 0, 2), -999);
        due.is("dealt, the other is greater", x.dealt(0, 0, 1, 0, 2, 0), 2);
        x.mark(1, 1, false);
        x.mark(1, 2, true);
        due.is("worth, the greatest", x.worth(0, 0, 1, 0, 2), 999);
        due.is("dealt, the other is less", x.dealt(0, 0, 1, 0, 2, 0), 1);
    }

    private static void dealtOf16Days() {
        NextFigures x = Scene.daily("same 1;", growing(19));
        for (int day = 0; day < 19; day++) {
            x.mark(1, day, true);
        }
        int[] want = {1, 1, 16, 16};
        for (int what = 0; what < 4; what++) {
            due.is("16 days, all deeds", x.dealt(0, 0, 1, 0, 16, what), want[what]);
            due.is("16 days further on", x.dealt(0, 0, 1, 3, 18, what), want[what]);
            due.is("17 days", x.dealt(0, 0, 1, 0, 17, what), STATE);
            due.is("17 days further on", x.dealt(0, 0, 1, 2, 18, what), STATE);
        }
        x.figure(0, 10, NONE);
        due.is("17 days less a gap", x.dealt(0, 0, 1, 2, 18, 2), 16);
        // the differences grow without bound below and above: the eight above 0 are the greatest choice
        for (int day = 0; day < 19; day += 2) {
            x.mark(1, day, false);
        }
        x.figure(0, 10, 495);
        int[] half = {1, 12870, 16, 8};
        for (int what = 0; what < 4; what++) {
            due.is("16 days, half of them deeds", x.dealt(0, 0, 1, 0, 16, what), half[what]);
        }
    }

    private static void changeAtTheEnds() {
        int[] first = row(64, 7);
        first[0] = 0;
        due.is("change on day 1", Scene.daily("", first).change(0, 0, 63), 1);
        int[] last = row(64, 7);
        last[63] = 0;
        due.is("change on day 63", Scene.daily("", last).change(0, 0, 63), 63);
        due.is("change, all alike", Scene.daily("", row(64, 7)).change(0, 0, 63), 1);
        due.is("change, all alike, the last two", Scene.daily("", row(64, 7)).change(0, 62, 63), 63);
        due.is("change, one day", Scene.daily("", row(64, 7)).change(0, 63, 63), NONE);
        NextFigures x = Scene.daily("", NONE, NONE, 4, NONE, NONE, 9, NONE);
        due.is("change, the day behind the first figure", x.change(0, 0, 6), 3);
        due.is("change, the day behind t", x.change(0, 2, 5), 3);
        due.is("change, nothing ahead", x.change(0, 3, 6), NONE);
        due.is("change, nothing behind", x.change(0, 0, 4), NONE);
        due.is("change, days that have not come", Scene.daily("", 1, 1, 5, 5).change(0, 0, 63), 2);
        due.is("change, the greatest", Scene.daily("", 0, 0, 999, 999).change(0, 0, 3), 2);
    }

    // ---- notes

    private static void notesUpTo24() {
        NextFigures x = Scene.daily("same 1;", 5);
        for (int i = 0; i < 24; i++) {
            due.is("note " + i, x.note(0, 0, 1 + i % 14, i), i);
        }
        due.is("the 25th", x.note(0, 0, 1, 1), FULL);
        due.is("notes", x.count(5), 24);
        due.is("the 24th", x.noteOf(23, 5), 23);
        due.is("the 24th", x.noteOf(23, 3), 10);
        due.is("no 25th", x.noteOf(24, 5), BAD);
        due.is("no 25th", x.acted(24), BAD);
        due.is("the 24th", x.acted(23), 1);
        due.is("the first", x.acted(0), 1);
        x.now(14);
        x.figure(0, 14, 5);
        // AHEAD 14 alone: the 14th
        due.is("came", x.notes(0), 1);
    }

    private static void heldAtTheWidth() {
        NextFigures x = Scene.daily("same 1;", 500);
        int[] widths = {0, 1, 499, 500};
        for (int width : widths) {
            x.note(0, 0, 1, width);
        }
        x.now(1);
        int[][] cameAndHeld = {{500, 4}, {501, 3}, {499, 3}, {502, 2}, {498, 2}, {999, 2}, {1, 2}, {0, 1}};
        for (int[] c : cameAndHeld) {
            x.figure(0, 1, c[0]);
            due.is("held when " + c[0] + " came", x.notes(1), c[1]);
            due.is("came", x.notes(0), 4);
            for (int i = 0; i < 4; i++) {
                due.is("held by " + widths[i], x.noteOf(i, 7), Math.abs(c[0] - 500) <= widths[i] ? 1 : 0);
            }
        }
        x = Scene.daily("same 1;", 999);
        x.note(0, 0, 1, 999);
        x.note(0, 0, 1, 998);
        x.now(1);
        x.figure(0, 1, 0);
        due.is("held by the greatest width", x.noteOf(0, 7), 1);
        due.is("held by one less", x.noteOf(1, 7), 0);
    }

    private static void cameOrNot() {
        NextFigures x = Scene.daily("same 1;", row(50, 5));
        due.is("note for the last day", x.note(0, 0, 14, 0), 0);
        x.now(50);
        due.is("note for a day behind all days", x.note(0, 0, 14, 0), 1);
        due.is("its day", x.noteOf(1, 3), 64);
        x.now(63);
        due.is("the day came without a figure", x.noteOf(0, 6), NONE);
        x.figure(0, 63, 5);
        due.is("it came", x.noteOf(0, 6), 5);
        due.is("it held", x.noteOf(0, 7), 1);
        due.is("behind all days none comes", x.noteOf(1, 6), NONE);
        due.is("nor holds", x.noteOf(1, 7), NONE);
        for (int day = 0; day < 14; day++) {
            x.figure(1, day, 5);
        }
        due.is("another shop's first days are not it", x.noteOf(1, 6), NONE);
        due.is("it came", x.acted(0), STATE);
        due.is("it can not come", x.acted(1), 1);
        due.is("came, not acted on", x.notes(2), 1);
        x.figure(0, 63, NONE);
        due.is("it did not come after all", x.notes(0), 0);
        due.is("it did not come after all", x.acted(0), 1);
        x.figure(0, 63, 5);
        due.is("came, acted on", x.notes(0), 1);
        due.is("came, not acted on", x.notes(2), 0);
        due.is("held, not acted on", x.notes(3), 0);
    }

    private static void notesOfEveryShop() {
        NextFigures x = new NextFigures();
        Due.tell(x, "like 1;same 1;");
        for (int shop = 0; shop < 4; shop++) {
            x.figure(shop, 0, 10 * shop);
        }
        for (int shop = 3; shop >= 0; shop--) {
            due.is("note", x.note(shop, shop % 2, 14, 2 * shop), 3 - shop);
        }
        x.now(14);
        for (int i = 0; i < 4; i++) {
            int shop = 3 - i;
            x.figure(shop, 14, 11 * shop);
            int[] want = {shop, shop % 2, 0, 14, 10 * shop, 2 * shop, 11 * shop, 1, 0};
            for (int what = 0; what <= 8; what++) {
                due.is("noteOf " + i + " " + what, x.noteOf(i, what), want[what]);
            }
        }
    }

    // ---- sheets

    private static void cellsOfSheets() {
        NextFigures x = new NextFigures();
        for (int k = 0; k < 4; k++) {
            for (int lane = 0; lane < 3; lane++) {
                due.is("a sheet of 64", x.sheet(k, lane, 64), 1);
                due.is("its last cell", x.lay(k, 63, 1), 1);
                due.is("no cell behind it", x.lay(k, 64, 1), -12);
                due.is("no cell ahead of the first", x.lay(k, -1, 1), -12);
                due.is("a sheet of one", x.sheet(k, lane, 1), 1);
                due.is("its cell", x.lay(k, 0, 1), 1);
                due.is("no second", x.lay(k, 1, 1), -12);
                due.is("a sheet of none", x.sheet(k, lane, 0), 1);
                due.is("no cell", x.lay(k, 0, 1), -12);
                due.is("a sheet of 65", x.sheet(k, lane, 65), BAD);
                due.is("a sheet of -1", x.sheet(k, lane, -1), -14);
                due.is("as it was", x.lay(k, 0, 1), -12);
            }
        }
    }

    private static void newCells() {
        NextFigures x = new NextFigures();
        x.now(2);
        for (int lane = 0; lane < 3; lane++) {
            for (int before = 0; before < 3; before++) {
                x.sheet(1, before, 3);
                for (int i = 0; i < 3; i++) {
                    x.lay(1, i, 7);
                }
                x.sheet(1, lane, 3);
                x.read(0, 0, 1, lane, 0, 3);
                for (int day = 0; day < 3; day++) {
                    due.is("a new cell", x.known(0, day, 2), 0);
                    x.figure(0, day, 5);
                }
            }
        }
    }

    private static void bitsOfCells() {
        int[][] cut = {{0, 127, 127}, {0, 128, NONE}, {0, 255, NONE}, {0, 256, 0}, {0, -1, NONE}, {0, -128, NONE},
            {0, -129, 127}, {0, -256, 0}, {0, Integer.MAX_VALUE, NONE}, {0, Integer.MIN_VALUE, 0},
            {1, 999, 999}, {1, 32768, NONE}, {1, 65535, NONE}, {1, 65536, 0}, {1, 66535, 999}, {1, -64537, 999},
            {1, -1, NONE}, {1, -32768, NONE}, {1, Integer.MAX_VALUE, NONE}, {1, Integer.MIN_VALUE, 0},
            {2, 999, 999}, {2, -1, NONE}, {2, Integer.MIN_VALUE, NONE}, {2, 0, 0}};
        for (int[] c : cut) {
            NextFigures x = new NextFigures();
            x.figure(0, 0, 5);
            x.sheet(0, c[0], 1);
            x.lay(0, 0, c[1]);
            due.is("lane " + c[0] + ", " + c[1], x.read(0, 0, 0, c[0], 0, 1), 1);
            due.is("lane " + c[0] + ", " + c[1], x.known(0, 0, 0), c[2]);
        }
        int[][] above = {{1, 1000}, {1, 32767}, {1, 66536}, {1, -32769}, {2, 1000}, {2, 65536}, {2, Integer.MAX_VALUE}};
        for (int[] a : above) {
            NextFigures x = new NextFigures();
            x.sheet(0, a[0], 1);
            x.lay(0, 0, a[1]);
            due.is("lane " + a[0] + ", " + a[1], x.read(0, 0, 0, a[0], 0, 1), -20);
        }
    }

    private static void cellsAsFigures() {
        NextFigures x = new NextFigures();
        x.now(63);
        x.sheet(0, 2, 64);
        for (int i = 0; i < 64; i++) {
            x.lay(0, i, i == 63 ? 1000 : i == 62 ? 999 : i == 61 ? -1 : 0);
        }
        due.is("the last of 64 is above 999", x.read(0, 0, 0, 2, 0, 64), -83);
        due.is("none was told", x.count(1), 0);
        due.is("63 of them, one is a gap already", x.read(0, 0, 0, 2, 0, 63), 62);
        due.is("999 is told", x.known(0, 62, 63), 999);
        due.is("-1 is a gap", x.known(0, 61, 63), NONE);
        due.is("0 is told", x.known(0, 60, 63), 0);
        due.is("-1 where a figure is", x.read(0, 62, 0, 2, 61, 1), 1);
        due.is("it is a gap", x.known(0, 62, 63), NONE);
        due.is("-1 where a gap was told", x.read(0, 62, 0, 2, 61, 1), 0);
        due.is("tellings", x.count(1), 63);
    }

    private static void readAtTheEnds() {
        NextFigures x = new NextFigures();
        x.sheet(3, 0, 64);
        due.is("day 0 on day 0", x.read(3, 0, 3, 0, 63, 1), 1);
        due.is("two days on day 0", x.read(3, 0, 3, 0, 0, 2), BAD);
        due.is("no days from day 0 on", x.read(3, 0, 3, 0, 0, 0), 0);
        due.is("no days from day 1 on", x.read(3, 1, 3, 0, 0, 0), 0);
        due.is("no days from the last day on", x.read(3, 63, 3, 0, 0, 0), 0);
        due.is("no days from no day on", x.read(3, 64, 3, 0, 0, 0), BAD);
        x.now(63);
        due.is("the last day", x.read(3, 63, 3, 0, 0, 1), 1);
        due.is("two days from the last on", x.read(3, 63, 3, 0, 0, 2), BAD);
        due.is("day 64", x.read(3, 64, 3, 0, 0, 1), BAD);
        due.is("64 days, two known so already", x.read(3, 0, 3, 0, 0, 64), 62);
        due.is("no tear", x.torn(), 0);
        due.is("65 days", x.read(3, 0, 3, 0, 0, 65), BAD);
        due.is("64 days from day 1 on", x.read(3, 1, 3, 0, 0, 64), BAD);
        due.is("63 of 64 days", x.read(2, 0, 3, 0, 1, 64), 63);
        due.is("the last is torn off", x.torn(), 2);
        due.is("the last is left as it is", x.known(2, 63, 63), NONE);
        due.is("the one ahead of it is told", x.known(2, 62, 63), 0);
        due.is("the last cell", x.read(1, 0, 3, 0, 63, 1), 1);
        due.is("behind the last cell", x.read(1, 1, 3, 0, 64, 1), 0);
        due.is("torn", x.torn(), 2);
        due.is("ahead of the first cell: those behind are left, too", x.read(1, 1, 3, 0, -1, 3), 0);
        due.is("torn", x.torn(), 2);
        due.is("left as it is", x.known(1, 2, 63), NONE);
        due.is("f and i beyond all numbers", x.read(1, 1, 3, 0, Integer.MAX_VALUE, 64 - 1), 0);
        due.is("torn", x.torn(), 2);
    }

    private static void readUpTo200Tellings() {
        NextFigures x = new NextFigures();
        x.now(63);
        x.sheet(0, 0, 64);
        for (int shop = 0; shop < 3; shop++) {
            due.is("64 tellings", x.read(shop, 0, 0, 0, 0, 64), 64);
        }
        due.is("nine are too many", x.read(3, 0, 0, 0, 0, 9), FULL);
        due.is("none was told", x.count(1), 192);
        due.is("none was told", x.known(3, 0, 63), NONE);
        due.is("eight are not", x.read(3, 0, 0, 0, 0, 8), 8);
        due.is("200 tellings", x.count(1), 200);
        due.is("none more", x.read(3, 8, 0, 0, 0, 1), FULL);
        due.is("eight known so already, and one", x.read(3, 0, 0, 0, 0, 9), FULL);
        due.is("eight known so already", x.read(3, 0, 0, 0, 0, 8), 0);
        due.is("by figure neither", x.figure(3, 8, 0), -7);
    }

    private static void torn() {
        NextFigures x = new NextFigures();
        x.now(9);
        x.sheet(0, 0, 2);
        x.sheet(1, 1, 2);
        x.sheet(2, 2, 2);
        for (int k = 0; k < 4; k++) {
            for (int lane = 0; lane < 3; lane++) {
                int want = k == 3 ? 1 : lane == k ? 0 : 3;
                x.read(0, 0, k, lane, 0, 2);
                due.is("torn, sheet " + k + " as of lane " + lane, x.torn(), want);
                x.read(0, 0, k, lane, 0, 3);
                due.is("torn, one cell too many", x.torn(), want == 0 ? 2 : want);
                x.read(0, 0, k, lane, 0, 0);
                due.is("torn, no cell is taken", x.torn(), 0);
            }
        }
        x.read(0, 0, 3, 0, 0, 1);
        x.read(0, 9, 0, 0, 0, 2);
        due.is("BAD is no end: torn is as it was", x.torn(), 1);
        x.lay(2, 0, 1000);
        x.read(0, 0, 2, 2, 0, 1);
        due.is("a cell above 999 is no end: torn is as it was", x.torn(), 1);
        due.is("nor does lay() tear", x.lay(0, 2, 0), -12);
        due.is("torn is as it was", x.torn(), 1);
        due.is("nor does sheet() tear", x.sheet(0, 0, -1), -14);
        due.is("torn is as it was", x.torn(), 1);
    }
}
