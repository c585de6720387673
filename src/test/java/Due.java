/** Counts and prints the answers that are not the ones that are due. */
final class Due {
    private final String test;
    private int wrong;
    private int asked;

    Due(String test) {
        this.test = test;
    }

    void is(String call, long got, long want) {
        asked++;
        if (got != want) {
            wrong++;
            if (wrong <= 50) {
                System.out.println(test + ": " + call + " answered " + got + ", due is " + want);
            }
        }
    }

    void holds(String what, boolean is) {
        is(what, is ? 1 : 0, 1);
    }

    void end() {
        System.out.println(test + ": " + asked + " asked, " + wrong + " not as due");
        if (wrong != 0) {
            System.exit(1);
        }
    }

    /** Puts a text on the tape, as whole feeds with blanks that end() cuts off. */
    static void lay(NextFigures x, String text) {
        StringBuilder padded = new StringBuilder(text);
        while (padded.length() % 8 != 0) {
            padded.append(' ');
        }
        int before = x.count(7);
        for (int i = 0; i < padded.length(); i += 8) {
            x.feed(word(padded.substring(i, i + 8)));
        }
        x.end(before + text.length());
    }

    static int tell(NextFigures x, String text) {
        lay(x, text);
        return x.text();
    }

    static long word(String eight) {
        long v = 0;
        for (int i = 0; i < 8; i++) {
            v = v << 8 | eight.charAt(i) & 255;
        }
        return v;
    }
}
