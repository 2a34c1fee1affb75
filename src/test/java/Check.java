/** What every test needs: due answers, and texts that are fed. */
final class Check {
    static final String TABLE = "odds 8;topic drains worth 3 drift 1;topic music worth 7 drift 0;"
        + "topic reform worth 12 drift 2;topic trinity worth 20 drift 3;claim rain at drains propped;"
        + "claim tune at music needs rain;claim bill at reform;claim soul at trinity needs bill tune;"
        + "claim vote at reform propped needs bill;talker gus seat 0 on drains;"
        + "talker may seat 3 on music fails 4;talker ned seat 5 on trinity fails 16;"
        + "feud gus may;feud may ned;";

    private int asked = 0;
    private int wrong = 0;

    void due(String call, long got, long want) {
        asked++;
        if (got != want) {
            wrong++;
            System.out.println(call + " answered " + got + ", due is " + want);
        }
    }

    void due(String call, boolean got, boolean want) {
        due(call, got ? 1L : 0L, want ? 1L : 0L);
    }

    /** A call that answered NONE, or false, must have this STATUS. */
    void refused(String call, TalkChutes x, long got, int status) {
        due(call, got, TalkChutes.NONE);
        due(call + ", status", x.status(), status);
    }

    void refused(String call, TalkChutes x, boolean got, int status) {
        due(call, got, false);
        due(call + ", status", x.status(), status);
    }

    /** A call that answered what is due, with STATUS 0. */
    void given(String call, TalkChutes x, long got, long want) {
        due(call, got, want);
        due(call + ", status", x.status(), 0);
    }

    void fraction(String call, TalkChutes x, boolean got, long top, long bottom) {
        due(call, got, true);
        due(call + ", status", x.status(), 0);
        due(call + ", top", x.top(), top);
        due(call + ", bottom", x.bottom(), bottom);
    }

    void fault(String text, TalkChutes x, int kind, int place) {
        due(text + ": fault(0)", x.fault(0), kind);
        due(text + ": fault(1)", x.fault(1), place);
    }

    /** The table's text must be refused, by this fault at this place. */
    void tableFault(String text, int kind, int place) {
        TalkChutes x = new TalkChutes();
        refused("table: " + text, x, table(x, text), 10);
        fault(text, x, kind, place);
    }

    /** Likewise the evenings' text, at the table above. */
    void eveningsFault(String text, int kind, int place) {
        TalkChutes x = withTable(TABLE);
        refused("evenings: " + text, x, evenings(x, text), 10);
        fault(text, x, kind, place);
    }

    static void feed(TalkChutes x, String text) {
        for (int i = 0; i < text.length(); i += 20) {
            x.feed(four(text, i), four(text, i + 4), four(text, i + 8), four(text, i + 12), four(text, i + 16));
        }
    }

    static int four(String text, int from) {
        int v = 0;
        for (int i = from; i < from + 4; i++) {
            v = v << 8 | (i < text.length() ? text.charAt(i) & 255 : ' ');
        }
        return v;
    }

    static int table(TalkChutes x, String text) {
        feed(x, text);
        return x.table(text.length());
    }

    static int evenings(TalkChutes x, String text) {
        feed(x, text);
        return x.evenings(text.length());
    }

    static TalkChutes withTable(String text) {
        TalkChutes x = new TalkChutes();
        if (table(x, text) == TalkChutes.NONE) {
            throw new IllegalStateException("the table is not taken: fault " + x.fault(0) + " at " + x.fault(1) + " of " + text);
        }
        return x;
    }

    void end(String name) {
        System.out.println(name + ": " + asked + " answers, " + wrong + " not as due");
        if (wrong != 0) {
            System.exit(1);
        }
    }
}
