/** Promises 32 to 40: ways, laws, when to pull. */
final class WaysTest {
    private static final Check CHECK = new Check();

    public static void main(String[] args) {
        waysAreFound();
        waysAreTold();
        greenIsTheEnd();
        couplesAreCounted();
        lawsFit();
        lawsAreLookedAt();
        heightsAreAsked();
        pullsAreWeighed();
        CHECK.end("WaysTest");
    }

    private static void waysAreFound() {
        TalkChutes x = Check.withTable(Check.TABLE);
        CHECK.refused("no height", x, x.way(5, 0), 2);
        CHECK.refused("no height", x, x.way(-1, 0), 2);
        CHECK.refused("no height", x, x.way(0, 5), 2);
        CHECK.refused("no height", x, x.way(1, -1), 2);
        CHECK.refused("from green", x, x.way(0, 0), 5);
        int[][] due = {{2, 0, 1, 2, -1}, {1, 1, 0, 1, -1}, {1, 1, 1, 0, -1}, {1, 1, 1, 1, 0}};
        for (int height = 1; height <= 4; height++) {
            for (int to = 0; to <= 4; to++) {
                int want = due[height - 1][to];
                if (want == -1) {
                    CHECK.refused("way " + height + " " + to, x, x.way(height, to), 8);
                } else {
                    CHECK.given("way " + height + " " + to, x, x.way(height, to), want);
                }
            }
        }
        x.prop(2);
        CHECK.given("to the top, as soul stands", x, x.way(1, 4), 3);
        CHECK.refused("no fall any more", x, x.way(1, 0), 8);
    }

    private static void saying(TalkChutes x, int height, int to, int k, int... due) {
        for (int what = 0; what < 3; what++) {
            CHECK.given("wayAt " + height + " " + to + " " + k + " " + what, x, x.wayAt(height, to, k, what), due[what]);
        }
    }

    private static void waysAreTold() {
        TalkChutes x = Check.withTable(Check.TABLE);
        saying(x, 1, 3, 0, 1, 0, 2);
        saying(x, 1, 3, 1, 4, 0, 3);
        saying(x, 1, 0, 0, 1, 0, 2);
        saying(x, 1, 0, 1, 2, 2, 0);
        saying(x, 4, 2, 0, 2, 1, 2);
        saying(x, 4, 1, 0, 2, 0, 1);
        saying(x, 4, 0, 0, 2, 2, 0);
        CHECK.refused("no third", x, x.wayAt(1, 3, 2, 0), 8);
        CHECK.refused("k -1", x, x.wayAt(1, 3, -1, 0), 8);
        CHECK.refused("an empty row", x, x.wayAt(2, 2, 0, 0), 8);
        CHECK.refused("by none", x, x.wayAt(1, 4, 0, 0), 8);
        CHECK.refused("what 3 ahead of 8", x, x.wayAt(1, 4, 0, 3), 5);
        CHECK.refused("what -1", x, x.wayAt(1, 3, 0, -1), 5);
        CHECK.refused("from green", x, x.wayAt(0, 3, 0, 0), 5);
        CHECK.refused("no height ahead of 5", x, x.wayAt(5, 3, 0, 9), 2);
        CHECK.refused("no height ahead of 5", x, x.wayAt(1, 5, 0, 9), 2);
    }

    private static void greenIsTheEnd() {
        TalkChutes x = Check.withTable("topic a worth 1 drift 1;topic b worth 2 drift 3;claim c at a;claim d at b propped;");
        CHECK.given("to green", x, x.way(1, 0), 1);
        saying(x, 1, 0, 0, 0, 0, 0);
        CHECK.given("not by green", x, x.way(1, 2), 1);
        CHECK.refused("none lands at 1", x, x.way(2, 1), 8);
        CHECK.given("the same", x, x.way(1, 1), 0);
        CHECK.given("the talkers' heights are free", x, x.many(2), 0);
    }

    private static void couplesAreCounted() {
        TalkChutes x = Check.withTable(Check.TABLE);
        int[] due = {3, 3, 2, 0, 0};
        for (int height = 0; height <= 4; height++) {
            CHECK.given("from " + height, x, x.from(height), due[height]);
        }
        CHECK.refused("no height", x, x.from(5), 2);
        CHECK.refused("no height", x, x.from(-1), 2);
        CHECK.fraction("bill", x, x.oddsThat(0, 2), 2, 3);
        CHECK.fraction("soul", x, x.oddsThat(0, 3), 1, 3);
        CHECK.fraction("halves", x, x.oddsThat(2, 3), 1, 2);
        CHECK.fraction("what stands", x, x.oddsThat(1, 0), 0, 1);
        CHECK.refused("no couple", x, x.oddsThat(3, 2), 8);
        CHECK.refused("no claim", x, x.oddsThat(3, 5), 2);
        CHECK.refused("no claim", x, x.oddsThat(3, -1), 2);
        CHECK.refused("no height", x, x.oddsThat(5, 2), 2);
        CHECK.refused("no height", x, x.oddsThat(-1, 2), 2);
        CHECK.due("the fraction stays", x.bottom(), 1);
        x.prop(3);
        CHECK.given("soul stands", x, x.from(1), 1);
        CHECK.fraction("all bill's", x, x.oddsThat(1, 2), 1, 1);
    }

    private static TalkChutes landings(int... numbers) {
        TalkChutes x = new TalkChutes();
        x.tray(0, 3, numbers.length);
        for (int i = 0; i < numbers.length; i++) {
            x.write(0, i, numbers[i]);
        }
        return x;
    }

    private static void lawsFit() {
        TalkChutes x = landings(9, 3, 4, 2, 1, 1);
        CHECK.given("none seen", x, x.laws(0, 0), 32);
        // lower by 6 from 9: 24 to 27 is 9 times SLOPE and SHIFT together
        CHECK.given("9 to 3", x, x.laws(0, 1), 3);
        CHECK.given("slope", x, x.lawOf(0, 1, 0), 2);
        CHECK.given("shift", x, x.lawOf(0, 1, 1), 6);
        // by 2 6: 14 of 4 is 3; by 2 7: 15 of 4 is 3; by 3 0: 12 of 4 is 3
        CHECK.given("and 4 to 2: none", x, x.laws(0, 2), 0);
        CHECK.refused("none fits", x, x.lawOf(0, 2, 0), 8);
        CHECK.refused("fewer than two", x, x.ask(0, 2), 8);
        TalkChutes y = landings(4, 2, 1, 1, 8, 4);
        CHECK.given("4 to 2", y, y.laws(0, 1), 8);
        CHECK.given("and 1 to 1", y, y.laws(0, 2), 2);
        CHECK.given("slope", y, y.lawOf(0, 2, 0), 2);
        CHECK.given("shift", y, y.lawOf(0, 2, 1), 0);
        TalkChutes z = landings(1, 0);
        CHECK.given("0 at least", z, z.laws(0, 1), 4 + 5 + 6 + 7);
        CHECK.given("slope", z, z.lawOf(0, 1, 0), 0);
        CHECK.given("shift", z, z.lawOf(0, 1, 1), 4);
    }

    private static void lawsAreLookedAt() {
        TalkChutes x = landings(4, 2, 1, 1, 0);
        CHECK.refused("tray", x, x.laws(4, 99), 1);
        CHECK.refused("tray", x, x.lawOf(-1, 99, 9), 1);
        CHECK.refused("tray", x, x.ask(4, 99), 1);
        CHECK.refused("missing", x, x.laws(1, 99), 3);
        CHECK.refused("missing", x, x.lawOf(1, 99, 9), 3);
        CHECK.refused("missing", x, x.ask(1, 99), 3);
        CHECK.refused("too few", x, x.laws(0, 3), 4);
        CHECK.refused("too few ahead of 5", x, x.lawOf(0, 21, 9), 4);
        CHECK.refused("too few", x, x.ask(0, Integer.MAX_VALUE), 4);
        CHECK.refused("n -1", x, x.laws(0, -1), 5);
        CHECK.refused("n -1", x, x.lawOf(0, Integer.MIN_VALUE, 0), 5);
        CHECK.refused("n -1", x, x.ask(0, -1), 5);
        CHECK.refused("what 2", x, x.lawOf(0, 2, 2), 5);
        CHECK.refused("what -1", x, x.lawOf(0, 2, -1), 5);
        x.tray(2, 0, 60);
        CHECK.refused("n 21", x, x.laws(2, 21), 5);
        CHECK.refused("pulled at 0", x, x.laws(2, 1), 5);
        for (int i = 0; i < 60; i += 2) {
            x.write(2, i, 9);
            x.write(2, i + 1, 9);
        }
        CHECK.given("twenty", x, x.laws(2, 20), 4);
        CHECK.refused("n 21", x, x.ask(2, 21), 5);
        x.write(2, 38, 10);
        CHECK.refused("pulled at 10", x, x.laws(2, 20), 5);
        CHECK.given("only the first ones count", x, x.laws(2, 19), 4);
        x.write(2, 38, 1);
        x.write(2, 39, -1);
        CHECK.refused("landed at -1", x, x.ask(2, 20), 5);
        x.write(2, 39, 10);
        CHECK.refused("landed at 10", x, x.lawOf(2, 20, 0), 5);
        TalkChutes y = landings(1, 9);
        CHECK.given("higher than he was", y, y.laws(0, 1), 0);
        y.write(0, 0, (1L << 32) + 1);
        CHECK.refused("a number above an int", y, y.laws(0, 1), 5);
    }

    private static void heightsAreAsked() {
        TalkChutes x = landings(4, 2);
        // those of 4 to 2: slope 1 shift 4 to 7, slope 2 shift 0 to 3; at 9: 6 6 6 5 5 5 4 4 land
        CHECK.given("4 to 2", x, x.ask(0, 1), 9);
        TalkChutes y = landings(1, 1, 2, 2, 3, 3);
        // slope 0 shift 0 to 3, slope 1 shift 0: at 4 the last parts from the others
        CHECK.given("few", y, y.laws(0, 3), 5);
        CHECK.given("of several the least", y, y.ask(0, 3), 4);
        CHECK.given("of all 32", y, y.ask(0, 0), 8);
        TalkChutes z = landings(1, 1, 2, 2, 4, 3);
        CHECK.given("two", z, z.laws(0, 3), 2);
        CHECK.given("two can be parted", z, z.ask(0, 3), 3);
    }

    private static void pullsAreWeighed() {
        TalkChutes x = Check.withTable(Check.TABLE);
        long[][] gus = {{0, 1, 1}, {7, 1, 2}, {7, 2, 2}, {3, 1, 4}};
        long[][] may = {{0, 1, 1}, {21, 4, 2}, {21, 8, 2}, {9, 4, 4}};
        for (int height = 1; height <= 4; height++) {
            CHECK.fraction("gus " + height, x, x.best(0, height), gus[height - 1][0], gus[height - 1][1]);
            CHECK.given("gus at " + height, x, x.bestAt(0, height), gus[height - 1][2]);
            CHECK.fraction("may " + height, x, x.best(1, height), may[height - 1][0], may[height - 1][1]);
            CHECK.given("may at " + height, x, x.bestAt(1, height), may[height - 1][2]);
            CHECK.fraction("ned " + height, x, x.best(2, height), 0, 1);
            CHECK.given("ned at " + height, x, x.bestAt(2, height), height);
        }
        CHECK.refused("no talker", x, x.best(3, 0), 2);
        CHECK.refused("no talker", x, x.bestAt(-1, 0), 2);
        CHECK.refused("no height", x, x.best(0, 5), 2);
        CHECK.refused("no height", x, x.bestAt(0, -1), 2);
        CHECK.refused("green", x, x.best(0, 0), 5);
        CHECK.refused("green", x, x.bestAt(0, 0), 5);
        x.rule(0);
        CHECK.fraction("no odds", x, x.best(0, 4), 7, 1);
        CHECK.given("he waits", x, x.bestAt(0, 4), 2);
        x.rule(16);
        CHECK.given("he does not wait", x, x.bestAt(0, 3), 3);
        x.rewrite(2, 1, 0);
        x.rule(1);
        CHECK.fraction("one lower", x, x.best(0, 4), 45, 4);
        longFall();
    }

    private static void longFall() {
        StringBuilder text = new StringBuilder("odds 1;topic a worth 19 drift 0;");
        for (int i = 1; i < 9; i++) {
            text.append("topic ").append((char) ('a' + i)).append(" worth 0 drift 0;");
        }
        text.append("talker z seat 0 on a fails 1;");
        TalkChutes x = Check.withTable(text.toString());
        long top = 19;
        for (int i = 0; i < 9; i++) {
            top *= 15;
        }
        CHECK.fraction("from 9 to 1", x, x.best(0, 9), top, 1L << 36);
        CHECK.given("from 9 to 1", x, x.bestAt(0, 9), 1);
    }
}
