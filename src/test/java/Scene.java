import java.util.ArrayList;
import java.util.List;

/** Objects with something of everything, and all that can be asked of what such an object holds. */
final class Scene {
    static final int NONE = -4;
    static final int NOW = 20;
    static final int FULL_NOW = 31;

    /** Makes the same object again and again. */
    interface Maker {
        NextFigures make();
    }

    /** One call, or some. */
    interface Call {
        int on(NextFigures x);
    }

    private Scene() {
    }

    /** Shop 0 with these figures, each told on its own day; NOW is the last of these. */
    static NextFigures daily(String text, int... figures) {
        NextFigures x = new NextFigures();
        Due.tell(x, text);
        for (int day = 0; day < figures.length; day++) {
            x.now(day);
            if (figures[day] != NONE) {
                x.figure(0, day, figures[day]);
            }
        }
        return x;
    }

    /** Six tellers, figures, feasts, deeds, two notes, three sheets, a fault, a tear, six bytes on the tape. */
    static NextFigures busy() {
        NextFigures x = new NextFigures();
        Due.tell(x, "same 1;mean 2;step 3 4;like 2;joined 5;same 2;");
        for (int day = 0; day <= NOW; day++) {
            x.now(day);
            x.figure(0, day, 100 + day * day % 37);
            if (day == 10) {
                x.note(0, 0, 1, 5);
            }
        }
        x.figure(3, NOW, 7);
        x.figure(0, 15, NONE);
        x.sheet(0, 2, 64);
        x.lay(0, 0, 1000);
        x.lay(0, 1, 11);
        x.lay(0, 63, -7);
        x.sheet(1, 0, 4);
        x.lay(1, 3, 99);
        x.sheet(2, 1, 9);
        x.lay(2, 8, 888);
        x.read(1, 0, 2, 1, 0, 9);
        x.mark(0, 5, true);
        x.mark(0, 26, true);
        x.mark(1, 7, true);
        x.mark(1, 12, true);
        x.mark(1, 63, true);
        x.note(0, 4, 14, 999);
        x.acted(1);
        Due.tell(x, "like 0;");
        x.read(1, 0, 3, 0, 0, 1);
        Due.lay(x, "same 9");
        return x;
    }

    /** 200 tellings, 24 notes, 120 bytes on the tape, six tellers. */
    static NextFigures full() {
        NextFigures x = new NextFigures();
        Due.tell(x, "same 1;mean 2;step 3 4;like 2;joined 5;mean 20;");
        x.now(FULL_NOW);
        x.sheet(0, 2, 64);
        for (int i = 0; i <= 32; i++) {
            x.lay(0, i, 1 + i * 7);
        }
        x.lay(0, 63, 1000);
        for (int times = 0; times < 6; times++) {
            x.read(times % 3, 0, 0, 2, times / 3, 32);
        }
        for (int v = 1; v <= 8; v++) {
            x.figure(3, 0, v);
        }
        for (int i = 0; i < 24; i++) {
            x.note(i % 3, 0, 1, i);
        }
        for (int i = 0; i < 15; i++) {
            x.feed(Due.word(i < 6 ? "same 1; " : "        "));
        }
        return x;
    }

    /** All that can be seen of what an object holds, each object asked within its 512 calls. */
    static List<Integer> seen(Maker maker, Call call) {
        List<Integer> all = new ArrayList<>();
        seeCounts(after(maker, call), all);
        for (int shop = 0; shop < 4; shop++) {
            NextFigures x = after(maker, call);
            for (int day = 0; day < 64; day++) {
                for (int on : new int[] {0, 10, NOW - 1, NOW, 63}) {
                    all.add(x.known(shop, day, on));
                }
            }
        }
        seeTape(after(maker, call), all);
        seeSheets(after(maker, call), all);
        return all;
    }

    private static NextFigures after(Maker maker, Call call) {
        NextFigures x = maker.make();
        call.on(x);
        return x;
    }

    private static void seeCounts(NextFigures x, List<Integer> all) {
        for (int what = 0; what <= 8; what++) {
            all.add(x.count(what));
        }
        all.add(x.fault());
        all.add(x.torn());
        for (int k = 0; k < 7; k++) {
            for (int what = 0; what < 3; what++) {
                all.add(x.teller(k, what));
            }
        }
        for (int i = 0; i < 3; i++) {
            for (int what = 0; what <= 8; what++) {
                all.add(x.noteOf(i, what));
            }
        }
        for (int what = 0; what < 4; what++) {
            all.add(x.notes(what));
        }
        for (int day = 0; day < 64; day++) {
            all.add(x.mark(0, day, false));
            all.add(x.mark(1, day, false));
        }
    }

    private static void seeTape(NextFigures x, List<Integer> all) {
        all.add(x.feed(Due.word(";like 3;")));
        all.add(x.text());
        all.add(x.fault());
        for (int k = 0; k < 7; k++) {
            for (int what = 0; what < 3; what++) {
                all.add(x.teller(k, what));
            }
        }
    }

    private static void seeSheets(NextFigures x, List<Integer> all) {
        for (int k = 0; k < 4; k++) {
            int itsLane = 0;
            for (int lane = 0; lane < 3; lane++) {
                all.add(x.read(2, 0, k, lane, -1, 1));
                all.add(x.torn());
                itsLane = x.torn() == 2 ? lane : itsLane;
            }
            for (int f = 0; f < (k == 0 ? 65 : 11); f++) {
                all.add(x.read(2, 0, k, itsLane, f, 1));
                all.add(x.known(2, 0, 63));
            }
        }
    }
}
