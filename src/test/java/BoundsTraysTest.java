/** The boundary cases that promises 1 to 8 name: a new object, status, fractions, trays. */
final class BoundsTraysTest {
    private static final Check CHECK = new Check();
    private static final int LEAST = Integer.MIN_VALUE;
    private static final int MOST = Integer.MAX_VALUE;

    public static void main(String[] args) {
        aNewObject();
        objectsAreApart();
        status();
        callsThatHaveNoStatus();
        theFirstStatusThatHolds();
        top();
        bottom();
        fractionsStay();
        tray();
        trayRefused();
        write();
        cutNumbers();
        read();
        pour();
        pourWithin();
        pourRefused();
        CHECK.end("BoundsTraysTest");
    }

    private static void aNewObject() {
        CHECK.promise(1, "TRAYS are MISSING");
        for (int tray = 0; tray < 4; tray++) {
            TalkChutes x = new TalkChutes();
            CHECK.refused("read(" + tray + ", 0)", x, x.read(tray, 0), 3);
            CHECK.refused("write(" + tray + ", 0, 1)", x, x.write(tray, 0, 1), 3);
            CHECK.refused("pour", x, x.pour(tray, 0, tray, 0, 0), 3);
            CHECK.refused("copyHeights", x, x.copyHeights(tray), 3);
            CHECK.refused("laws", x, x.laws(tray, 0), 3);
        }
        TalkChutes x = new TalkChutes();
        CHECK.promise(1, "STATUS 0");
        CHECK.due("status()", x.status(), 0);
        CHECK.promise(1, "the FRACTION 0 by 1");
        CHECK.due("top()", x.top(), 0);
        CHECK.due("bottom()", x.bottom(), 1);
        CHECK.promise(1, "a TABLE of nothing (ODDS 4)");
        int[] many = {0, 0, 0, 0, 4, 0, 0, 0, 0, 0};
        for (int what = 0; what < many.length; what++) {
            CHECK.given("many(" + what + ")", x, x.many(what), many[what]);
        }
        CHECK.refused("topic(0, 0)", x, x.topic(0, 0), 2);
        CHECK.refused("claim(0, 0)", x, x.claim(0, 0), 2);
        CHECK.refused("talker(0, 0)", x, x.talker(0, 0), 2);
        CHECK.refused("feud(0, 0)", x, x.feud(0, 0), 2);
        CHECK.refused("from(1)", x, x.from(1), 2);
        CHECK.given("from(0): GREEN is a HEIGHT still", x, x.from(0), 0);
        CHECK.promise(1, "no EVENINGS");
        CHECK.refused("live(0)", x, x.live(0), 8);
        CHECK.refused("mean(0, 1)", x, x.mean(0, 1), 8);
        CHECK.refused("lived(0)", x, x.lived(0), 8);
        CHECK.promise(1, "no MARKS");
        CHECK.refused("back()", x, x.back(), 8);
        CHECK.promise(1, "an empty tape");
        CHECK.refused("table(1)", x, x.table(1), 5);
        CHECK.refused("evenings(1)", x, x.evenings(1), 5);
        CHECK.due("feed", x.feed(0, 0, 0, 0, 0), 20);
    }

    private static void objectsAreApart() {
        CHECK.promise(1, "a new object has nothing of another one");
        TalkChutes first = Check.rich();
        TalkChutes second = new TalkChutes();
        CHECK.due("all is as new", Whole.told(second).equals(Whole.told(new TalkChutes())), true);
        CHECK.given("the first one stays", first, first.many(2), 3);
        CHECK.given("the first one stays", first, first.read(1, 0), 77);
    }

    private static void status() {
        CHECK.promise(2, "the STATUS of the latest call that has one");
        TalkChutes x = Check.rich();
        x.many(10);
        CHECK.due("behind a refused one", x.status(), 5);
        CHECK.due("asking does not change it", x.status(), 5);
        x.topic(4, 0);
        CHECK.due("of the later one", x.status(), 2);
        x.many(0);
        CHECK.due("0 again", x.status(), 0);
        x.tray(0, 0, -1);
        CHECK.due("6", x.status(), 6);
        x.tray(0, 0, 0);
        CHECK.due("0 behind true", x.status(), 0);
        x.oddsThat(3, 2);
        CHECK.due("8", x.status(), 8);
        x.chutes(0);
        CHECK.due("0 behind a fraction", x.status(), 0);
        CHECK.promise(2, "STATUS tells NONE from -1");
        x.tray(0, 0, 1);
        x.write(0, 0, -1);
        CHECK.given("a number that is -1", x, x.read(0, 0), -1);
        CHECK.refused("none", x, x.read(0, 1), 4);
    }

    private static void callsThatHaveNoStatus() {
        CHECK.promise(2, "status(), fault(), feed(), top(), bottom() have none");
        TalkChutes x = new TalkChutes();
        x.many(10);
        for (int i = 0; i < 46; i++) {
            x.feed(0, 0, 0, 0, 0);
            CHECK.due("behind feed", x.status(), 5);
        }
        for (int what = -1; what < 3; what++) {
            x.fault(what);
            CHECK.due("behind fault", x.status(), 5);
        }
        x.top();
        CHECK.due("behind top", x.status(), 5);
        x.bottom();
        CHECK.due("behind bottom", x.status(), 5);
        x.table(900);
        x.fault(0);
        CHECK.due("behind fault", x.status(), 10);
        x.many(0);
        x.fault(7);
        CHECK.due("0 stays", x.status(), 0);
    }

    private static void theFirstStatusThatHolds() {
        CHECK.promise(2, "the first of these that holds");
        TalkChutes x = Check.rich();
        CHECK.refused("1 ahead of 3, 4", x, x.read(4, 99), 1);
        CHECK.refused("3 ahead of 4", x, x.read(3, 99), 3);
        CHECK.refused("3 ahead of 5", x, x.laws(3, 99), 3);
        CHECK.refused("4 ahead of 5", x, x.laws(0, 99), 4);
        CHECK.refused("5 ahead of 8", x, x.wayAt(1, 4, 0, 3), 5);
        CHECK.refused("2 ahead of 5", x, x.topic(4, 9), 2);
        CHECK.refused("2 ahead of 9", x, x.say(1, 5), 2);
        CHECK.refused("5 ahead of 9", x, x.drop(0, 0), 5);
        TalkChutes y = new TalkChutes();
        CHECK.refused("5 ahead of 8", y, y.mean(0, 0), 5);
        TalkChutes z = Check.withTable(Check.FULL);
        CHECK.refused("7 ahead of 9", z, z.anger(1, 0), 7);
    }

    private static void top() {
        CHECK.promise(3, "of the FRACTION told latest, without a common divisor");
        TalkChutes x = Check.withTable(Check.TABLE);
        x.chutes(2);
        CHECK.due("3072 by 4096 is 3 by 4", x.top(), 3);
        x.oddsThat(2, 3);
        CHECK.due("1 by 2", x.top(), 1);
        x.best(0, 2);
        CHECK.due("7 by 1", x.top(), 7);
        CHECK.promise(3, "0 is 0 by 1");
        x.chutes(3);
        CHECK.due("0", x.top(), 0);
        CHECK.promise(3, "above an int");
        TalkChutes y = Check.withTable(longFall());
        y.best(0, 9);
        CHECK.due("the top", y.top(), 19L * 38443359375L);
        CHECK.due("the bottom", y.bottom(), 1L << 36);
    }

    /** Fifteen to the 9th by 16 to the 9th of 19 is what he has in the end. */
    private static String longFall() {
        StringBuilder text = new StringBuilder("odds 1;topic a worth 19 drift 0;");
        for (int i = 1; i < 9; i++) {
            text.append("topic ").append((char) ('a' + i)).append(" worth 0 drift 0;");
        }
        return text.append("talker z seat 0 on a fails 1;").toString();
    }

    private static void bottom() {
        CHECK.promise(4, "above 0");
        TalkChutes x = Check.withTable(Check.TABLE);
        x.chutes(3);
        CHECK.due("of 0", x.bottom(), 1);
        x.chutes(0);
        CHECK.due("of 1", x.bottom(), 1);
        x.chutes(2);
        CHECK.due("of 3 by 4", x.bottom(), 4);
        x.best(2, 4);
        CHECK.due("of 0 by best", x.bottom(), 1);
        x.oddsThat(1, 0);
        CHECK.due("of 0 by oddsThat", x.bottom(), 1);
        TalkChutes y = new TalkChutes();
        y.evenings(0);
        y.mean(0, 20);
        CHECK.due("of 0 by mean", y.bottom(), 1);
        CHECK.promise(4, "bottom() goes with top()");
        x.oddsThat(1, 3);
        CHECK.due("top", x.top(), 2);
        CHECK.due("bottom", x.bottom(), 3);
    }

    private static void fractionsStay() {
        CHECK.promise(3, "a refused call does not change the FRACTION");
        TalkChutes x = Check.rich();
        boolean[] refused = {x.chutes(7), x.chutes(-1), x.oddsThat(3, 2), x.oddsThat(5, 0), x.best(0, 0), x.best(3, 1), x.mean(0, 21), x.mean(9999, 2)};
        for (boolean got : refused) {
            CHECK.due("refused", got, false);
        }
        CHECK.due("top", x.top(), 3);
        CHECK.due("bottom", x.bottom(), 4);
        CHECK.promise(4, "a call that tells no FRACTION does not change it");
        x.back();
        x.live(1);
        x.table(0);
        CHECK.due("top", x.top(), 3);
        CHECK.due("bottom", x.bottom(), 4);
    }

    private static void tray() {
        CHECK.promise(5, "at most 60");
        TalkChutes x = new TalkChutes();
        int[] lengths = {0, 1, 59, 60};
        for (int many : lengths) {
            for (int sort = 0; sort < 4; sort++) {
                CHECK.due("tray of " + many, x.tray(sort, sort, many), true);
                CHECK.due("status", x.status(), 0);
                CHECK.refused("behind the last", x, x.read(sort, many), 4);
                if (many > 0) {
                    CHECK.given("the last", x, x.read(sort, many - 1), 0);
                }
            }
        }
        CHECK.promise(5, "all 0");
        for (int place = 0; place < 60; place++) {
            x.write(3, place, -1);
        }
        CHECK.due("shorter anew", x.tray(3, 3, 30), true);
        CHECK.due("longer anew", x.tray(3, 3, 60), true);
        for (int place = 0; place < 60; place++) {
            CHECK.given("place " + place, x, x.read(3, place), 0);
        }
        CHECK.promise(5, "0 numbers are a TRAY, not a MISSING one");
        x.tray(2, 1, 0);
        CHECK.refused("read", x, x.read(2, 0), 4);
        CHECK.given("laws", x, x.laws(2, 0), 32);
    }

    private static void trayRefused() {
        CHECK.promise(5, "1 no such TRAY (or sort)");
        int[] wrong = {-1, 4, LEAST, MOST};
        for (int w : wrong) {
            CHECK.changesNothing("tray " + w, Check::rich, x -> x.tray(w, 0, 1), 1);
            CHECK.changesNothing("sort " + w, Check::rich, x -> x.tray(0, w, 1), 1);
            CHECK.changesNothing("1 ahead of 5", Check::rich, x -> x.tray(w, 0, 61), 1);
            CHECK.changesNothing("1 ahead of 6", Check::rich, x -> x.tray(0, w, -1), 1);
        }
        CHECK.promise(5, "5: above 60");
        CHECK.changesNothing("61", Check::rich, x -> x.tray(0, 0, 61), 5);
        CHECK.changesNothing("the most", Check::rich, x -> x.tray(3, 0, MOST), 5);
        CHECK.promise(5, "6 below 0 (a TRAY's length)");
        CHECK.changesNothing("-1", Check::rich, x -> x.tray(0, 0, -1), 6);
        CHECK.changesNothing("the least", Check::rich, x -> x.tray(3, 3, LEAST), 6);
    }

    private static void write() {
        CHECK.promise(6, "a number comes to a place");
        TalkChutes x = new TalkChutes();
        x.tray(1, 3, 60);
        CHECK.due("the first", x.write(1, 0, 5), true);
        CHECK.due("the last", x.write(1, 59, 6), true);
        CHECK.due("status", x.status(), 0);
        CHECK.given("the first", x, x.read(1, 0), 5);
        CHECK.given("the last", x, x.read(1, 59), 6);
        CHECK.given("another one", x, x.read(1, 1), 0);
        CHECK.promise(6, "1");
        int[] wrong = {-1, 4, LEAST, MOST};
        for (int w : wrong) {
            CHECK.changesNothing("tray " + w, Check::rich, y -> y.write(w, -1, 1), 1);
        }
        CHECK.promise(6, "3");
        CHECK.changesNothing("missing, ahead of 4", Check::rich, y -> y.write(3, -1, 1), 3);
        CHECK.promise(6, "4");
        int[] places = {-1, 6, 60, LEAST, MOST};
        for (int place : places) {
            CHECK.changesNothing("place " + place, Check::rich, y -> y.write(0, place, 1), 4);
        }
    }

    private static void cutNumbers() {
        CHECK.promise(6, "what is written is cut to 8, 16, 32, 64 bits, with sign");
        int[] bits = {8, 16, 32, 64};
        for (int sort = 0; sort < 4; sort++) {
            TalkChutes x = new TalkChutes();
            x.tray(0, sort, 1);
            long most = (1L << bits[sort] - 1) - 1;
            long least = -most - 1;
            long[] written = {0, 1, -1, most, least, most + 1, least - 1, 2 * (most + 1), 2 * most + 1, Long.MAX_VALUE, Long.MIN_VALUE, 0x5555555555555555L};
            for (long v : written) {
                x.write(0, 0, v);
                long due = v << 64 - bits[sort] >> 64 - bits[sort];
                CHECK.given("sort " + sort + ": " + v, x, x.read(0, 0), due);
            }
            x.write(0, 0, most);
            CHECK.given("the most", x, x.read(0, 0), most);
            x.write(0, 0, most + 1);
            CHECK.given("one above comes round to the least", x, x.read(0, 0), least);
            x.write(0, 0, least - 1);
            CHECK.given("one below the least comes round to the most", x, x.read(0, 0), most);
        }
    }

    private static void read() {
        CHECK.promise(7, "STATUS tells NONE from -1");
        TalkChutes x = new TalkChutes();
        x.tray(0, 0, 2);
        x.write(0, 1, 255);
        CHECK.given("a -1", x, x.read(0, 1), -1);
        CHECK.refused("none", x, x.read(0, 2), 4);
        CHECK.promise(7, "1");
        int[] wrong = {-1, 4, LEAST, MOST};
        for (int w : wrong) {
            CHECK.changesNothing("tray " + w, Check::rich, y -> y.read(w, -1), 1);
        }
        CHECK.promise(7, "3");
        CHECK.changesNothing("missing, ahead of 4", Check::rich, y -> y.read(3, -1), 3);
        CHECK.promise(7, "4");
        int[] places = {-1, 6, 60, LEAST, MOST};
        for (int place : places) {
            CHECK.changesNothing("place " + place, Check::rich, y -> y.read(0, place), 4);
        }
        CHECK.promise(7, "4: the TRAY has no place at all");
        x.tray(1, 0, 0);
        CHECK.refused("an empty one", x, x.read(1, 0), 4);
    }

    private static void row(TalkChutes x, int tray, long... due) {
        for (int i = 0; i < due.length; i++) {
            CHECK.given("place " + i, x, x.read(tray, i), due[i]);
        }
    }

    private static TalkChutes counted() {
        TalkChutes x = new TalkChutes();
        x.tray(0, 3, 6);
        x.tray(1, 3, 6);
        for (int i = 0; i < 6; i++) {
            x.write(0, i, i + 1);
        }
        return x;
    }

    private static void pour() {
        CHECK.promise(8, "so many numbers: 0, all");
        TalkChutes x = counted();
        CHECK.due("all", x.pour(0, 0, 1, 0, 6), true);
        row(x, 1, 1, 2, 3, 4, 5, 6);
        CHECK.due("none at the first", x.pour(0, 0, 1, 3, 0), true);
        CHECK.due("none behind the last", x.pour(0, 6, 1, 6, 0), true);
        row(x, 1, 1, 2, 3, 4, 5, 6);
        CHECK.due("the last to the first", x.pour(0, 5, 1, 0, 1), true);
        CHECK.due("the first to the last", x.pour(0, 0, 1, 5, 1), true);
        row(x, 1, 6, 2, 3, 4, 5, 1);
        CHECK.promise(8, "sixty");
        x.tray(2, 0, 60);
        x.tray(3, 0, 60);
        x.write(2, 59, -7);
        CHECK.due("sixty", x.pour(2, 0, 3, 0, 60), true);
        CHECK.given("the last", x, x.read(3, 59), -7);
        CHECK.promise(8, "empty TRAYS");
        x.tray(2, 0, 0);
        CHECK.due("nothing to nothing", x.pour(2, 0, 2, 0, 0), true);
        CHECK.due("status", x.status(), 0);
    }

    private static void pourWithin() {
        CHECK.promise(8, "or the same, as they were");
        TalkChutes x = counted();
        CHECK.due("up by one", x.pour(0, 0, 0, 1, 5), true);
        row(x, 0, 1, 1, 2, 3, 4, 5);
        x = counted();
        CHECK.due("down by one", x.pour(0, 1, 0, 0, 5), true);
        row(x, 0, 2, 3, 4, 5, 6, 6);
        x = counted();
        CHECK.due("up by two", x.pour(0, 1, 0, 3, 3), true);
        row(x, 0, 1, 2, 3, 2, 3, 4);
        x = counted();
        CHECK.due("on themselves", x.pour(0, 0, 0, 0, 6), true);
        row(x, 0, 1, 2, 3, 4, 5, 6);
    }

    private static void pourRefused() {
        CHECK.promise(8, "1 first");
        CHECK.changesNothing("first tray", Check::rich, x -> x.pour(-1, -1, 3, 0, -1), 1);
        CHECK.changesNothing("first tray", Check::rich, x -> x.pour(4, 0, 0, 0, 0), 1);
        CHECK.changesNothing("second tray", Check::rich, x -> x.pour(3, 0, 4, 0, -1), 1);
        CHECK.changesNothing("second tray", Check::rich, x -> x.pour(0, 0, MOST, 0, 0), 1);
        CHECK.promise(8, "then 3 (either)");
        CHECK.changesNothing("the first", Check::rich, x -> x.pour(3, -1, 2, 0, -1), 3);
        CHECK.changesNothing("the second", Check::rich, x -> x.pour(2, -1, 3, 0, -1), 3);
        CHECK.changesNothing("both", Check::rich, x -> x.pour(3, 0, 3, 0, 0), 3);
        CHECK.promise(8, "then 11, though it is above 6 and 4");
        CHECK.changesNothing("ahead of 6", Check::rich, x -> x.pour(0, 0, 2, 0, -1), 11);
        CHECK.changesNothing("ahead of 4", Check::rich, x -> x.pour(2, 9, 0, 0, 1), 11);
        CHECK.changesNothing("even of nothing", Check::rich, x -> x.pour(0, 0, 2, 0, 0), 11);
        CHECK.promise(8, "then 6, though it is above 4");
        CHECK.changesNothing("ahead of 4", Check::rich, x -> x.pour(0, 9, 1, -1, -1), 6);
        CHECK.changesNothing("the least", Check::rich, x -> x.pour(0, 0, 1, 0, LEAST), 6);
        CHECK.promise(8, "then 4");
        int[][] places = {{-1, 0, 1}, {0, -1, 1}, {6, 0, 1}, {0, 4, 1}, {3, 0, 4}, {0, 1, 4}, {0, 0, 5}, {7, 0, 0}, {0, 5, 0}, {-1, 0, 0},
            {0, 0, MOST}, {1, 1, MOST}, {MOST, 0, 1}, {0, MOST, 1}, {MOST, MOST, MOST}, {LEAST, 0, 1}, {0, LEAST, 1}};
        for (int[] p : places) {
            CHECK.changesNothing("pour(0, " + p[0] + ", 1, " + p[1] + ", " + p[2] + ")", Check::rich, x -> x.pour(0, p[0], 1, p[1], p[2]), 4);
        }
    }
}
