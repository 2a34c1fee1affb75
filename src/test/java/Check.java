import java.util.List;
import java.util.function.Function;
import java.util.function.Supplier;

/** What every test needs: due answers, and texts that are fed. */
final class Check {
    static final String TABLE = "odds 8;topic drains worth 3 drift 1;topic music worth 7 drift 0;"
        + "topic reform worth 12 drift 2;topic trinity worth 20 drift 3;claim rain at drains propped;"
        + "claim tune at music needs rain;claim bill at reform;claim soul at trinity needs bill tune;"
        + "claim vote at reform propped needs bill;talker gus seat 0 on drains;"
        + "talker may seat 3 on music fails 4;talker ned seat 5 on trinity fails 16;"
        + "feud gus may;feud may ned;";

    /** As full as a table can be, and every number at its most. */
    static final String FULL = full();

    private int asked = 0;
    private int wrong = 0;
    private String sentence = "";

    /** What is asked from here on is asked for this sentence of this promise. */
    void promise(int number, String words) {
        sentence = "promise " + number + " (" + words + "): ";
    }

    void due(String call, long got, long want) {
        asked++;
        if (got != want) {
            wrong++;
            System.out.println(sentence + call + " answered " + got + ", due is " + want);
        }
    }

    void due(String call, boolean got, boolean want) {
        due(call, got ? 1L : 0L, want ? 1L : 0L);
    }

    /** A call that answered NONE, or false, must have this STATUS. */
    void refused(String call, TalkChutes x, long got, int status) {
        due(call, got, TalkChutes.NONE);
        due(call + ", status", x.status(), status);
    }

    void refused(String call, TalkChutes x, boolean got, int status) {
        due(call, got, false);
        due(call + ", status", x.status(), status);
    }

    /** Likewise, and of two objects made alike the one that was called is as the other one. */
    void changesNothing(String call, Supplier<TalkChutes> made, Function<TalkChutes, Object> called, int status) {
        TalkChutes x = made.get();
        Object got = called.apply(x);
        due(call, got instanceof Boolean ? (Boolean) got ? 1 : TalkChutes.NONE : ((Number) got).longValue(), TalkChutes.NONE);
        due(call + ", status", x.status(), status);
        List<Long> left = Whole.told(x);
        List<Long> before = Whole.told(made.get());
        due(call + " changes nothing", left.equals(before), true);
    }

    /** A call that answered what is due, with STATUS 0. */
    void given(String call, TalkChutes x, long got, long want) {
        due(call, got, want);
        due(call + ", status", x.status(), 0);
    }

    void fraction(String call, TalkChutes x, boolean got, long top, long bottom) {
        due(call, got, true);
        due(call + ", status", x.status(), 0);
        due(call + ", top", x.top(), top);
        due(call + ", bottom", x.bottom(), bottom);
    }

    void fault(String text, TalkChutes x, int kind, int place) {
        due(text + ": fault(0)", x.fault(0), kind);
        due(text + ": fault(1)", x.fault(1), place);
    }

    /** The table's text must be refused, by this fault at this place. */
    void tableFault(String text, int kind, int place) {
        TalkChutes x = new TalkChutes();
        refused("table: " + text, x, table(x, text), 10);
        fault(text, x, kind, place);
    }

    /** Likewise the evenings' text, at the table above. */
    void eveningsFault(String text, int kind, int place) {
        TalkChutes x = withTable(TABLE);
        refused("evenings: " + text, x, evenings(x, text), 10);
        fault(text, x, kind, place);
    }

    /** The place of the fault is where ^ stands, which is no part of the text. */
    void tableFaultAt(int kind, String marked) {
        tableFault(marked.replace("^", ""), kind, marked.indexOf('^'));
    }

    void eveningsFaultAt(int kind, String marked) {
        eveningsFault(marked.replace("^", ""), kind, marked.indexOf('^'));
    }

    /** The table's text must be taken. */
    TalkChutes tableTaken(String text) {
        TalkChutes x = new TalkChutes();
        int talkers = table(x, text);
        given("table: " + text, x, talkers, x.many(2));
        fault(text, x, 0, TalkChutes.NONE);
        return x;
    }

    TalkChutes eveningsTaken(String text, int steps) {
        TalkChutes x = withTable(TABLE);
        given("evenings: " + text, x, evenings(x, text), steps);
        fault(text, x, 0, TalkChutes.NONE);
        return x;
    }

    /** An object that has something of all there is: what a refused call would harm is seen. */
    static TalkChutes rich() {
        TalkChutes x = withEvenings(TABLE, "say gus tune;say gus bill;any;");
        x.mark();
        x.live(3);
        x.back();
        x.mark();
        x.rewrite(0, 0, 5);
        x.mark();
        x.tray(0, 1, 6);
        int[] landings = {4, 2, 1, 1, 9, 3};
        for (int i = 0; i < landings.length; i++) {
            x.write(0, i, landings[i]);
        }
        x.tray(1, 1, 4);
        x.write(1, 0, 77);
        x.tray(2, 2, 2);
        x.say(1, 2);
        x.chutes(2);
        feed(x, "odds 3;topic a worth");
        return x;
    }

    private static String full() {
        StringBuilder text = new StringBuilder("odds 16;");
        for (int i = 0; i < 9; i++) {
            text.append("topic ").append((char) ('a' + i)).append(" worth 20 drift 3;");
        }
        for (int i = 0; i < 8; i++) {
            text.append("claim c").append((char) ('a' + i)).append(" at ").append((char) ('a' + i)).append(';');
        }
        for (int i = 0; i < 6; i++) {
            text.append("talker t").append((char) ('a' + i)).append(" seat ").append(9 - i).append(" on i fails 16;");
        }
        int feuds = 0;
        for (int i = 0; i < 6; i++) {
            for (int j = 0; j < i && feuds < 10; j++, feuds++) {
                text.append("feud t").append((char) ('a' + i)).append(" t").append((char) ('a' + j)).append(';');
            }
        }
        return text.toString();
    }

    static void feed(TalkChutes x, String text) {
        for (int i = 0; i < text.length(); i += 20) {
            x.feed(four(text, i), four(text, i + 4), four(text, i + 8), four(text, i + 12), four(text, i + 16));
        }
    }

    static int four(String text, int from) {
        int v = 0;
        for (int i = from; i < from + 4; i++) {
            v = v << 8 | (i < text.length() ? text.charAt(i) & 255 : ' ');
        }
        return v;
    }

    static int table(TalkChutes x, String text) {
        feed(x, text);
        return x.table(text.length());
    }

    static int evenings(TalkChutes x, String text) {
        feed(x, text);
        return x.evenings(text.length());
    }

    static TalkChutes withTable(String text) {
        TalkChutes x = new TalkChutes();
        if (table(x, text) == TalkChutes.NONE) {
            throw new IllegalStateException("the table is not taken: fault " + x.fault(0) + " at " + x.fault(1) + " of " + text);
        }
        return x;
    }

    static TalkChutes withEvenings(String table, String text) {
        TalkChutes x = withTable(table);
        if (evenings(x, text) == TalkChutes.NONE) {
            throw new IllegalStateException("the evenings are not taken: fault " + x.fault(0) + " at " + x.fault(1) + " of " + text);
        }
        return x;
    }

    void end(String name) {
        System.out.println(name + ": " + asked + " answers, " + wrong + " not as due");
        if (wrong != 0) {
            System.exit(1);
        }
    }
}
