/** The boundary cases that promises 32 to 40 name: ways, laws, when to pull. */
final class BoundsWaysTest {
    private static final Check CHECK = new Check();
    private static final int LEAST = Integer.MIN_VALUE;
    private static final int MOST = Integer.MAX_VALUE;
    private static final int[] NO_HEIGHTS = {-1, 5, 10, LEAST, MOST};
    private static final int[] NO_CLAIMS = {-1, 5, 8, LEAST, MOST};
    private static final int[] NO_TALKERS = {-1, 3, 6, LEAST, MOST};
    private static final int[] NO_TRAYS = {-1, 4, LEAST, MOST};
    private static final String LADDER = ladder();

    public static void main(String[] args) {
        way();
        wayBeyondGreen();
        wayRefused();
        wayAt();
        wayAtTheFirstOfSeveral();
        wayAtRefused();
        from();
        oddsThat();
        laws();
        lawsRefused();
        lawOf();
        ask();
        best();
        bestAt();
        bestRefused();
        CHECK.end("BoundsWaysTest");
    }

    /** Nine topics and eight claims that stand, at the second one up to the highest. */
    private static String ladder() {
        StringBuilder text = new StringBuilder();
        for (int i = 0; i < 9; i++) {
            text.append("topic ").append((char) ('a' + i)).append(" worth 1 drift 0;");
        }
        for (int i = 1; i < 9; i++) {
            text.append("claim c").append((char) ('a' + i)).append(" at ").append((char) ('a' + i)).append(" propped;");
        }
        return text.toString();
    }

    private static void way() {
        CHECK.promise(32, "or the same (an empty row)");
        TalkChutes x = Check.withTable(Check.FULL);
        for (int height = 1; height <= 9; height++) {
            CHECK.given("way(" + height + ", " + height + ")", x, x.way(height, height), 0);
        }
        TalkChutes none = Check.withTable("topic a worth 1 drift 1;");
        CHECK.given("without CLAIMS", none, none.way(1, 1), 0);
        CHECK.promise(32, "the longest one there is: by eight");
        TalkChutes y = Check.withTable(LADDER);
        for (int to = 1; to <= 9; to++) {
            CHECK.given("way(1, " + to + ")", y, y.way(1, to), to - 1);
        }
        CHECK.given("way(9, 2)", y, y.way(9, 2), 7);
        CHECK.promise(32, "8: by none");
        CHECK.refused("no CLAIM at the lowest", y, y.way(9, 1), 8);
        CHECK.refused("nobody falls", y, y.way(1, 0), 8);
        CHECK.refused("without CLAIMS", none, none.way(1, 0), 8);
        CHECK.promise(32, "no more than 1 above or below where he is");
        TalkChutes z = Check.withTable("topic a worth 1 drift 0;topic b worth 1 drift 0;topic c worth 1 drift 0;claim d at c propped;claim e at a propped;");
        CHECK.refused("two above", z, z.way(1, 3), 8);
        CHECK.refused("two below", z, z.way(3, 1), 8);
        CHECK.given("one above", z, z.way(2, 3), 1);
        CHECK.given("one below", z, z.way(2, 1), 1);
    }

    private static void wayBeyondGreen() {
        CHECK.promise(32, "on GREEN at most behind the last");
        TalkChutes x = Check.withTable("topic a worth 1 drift 3;topic b worth 1 drift 3;topic c worth 1 drift 0;claim d at b;claim e at a propped;");
        CHECK.given("to GREEN", x, x.way(3, 0), 1);
        CHECK.refused("not from GREEN to the lowest", x, x.way(3, 1), 8);
        CHECK.promise(32, "a DROP by 0 to 3, no more");
        TalkChutes y = Check.withTable("topic a worth 1 drift 0;topic b worth 1 drift 0;topic c worth 1 drift 0;topic d worth 1 drift 0;topic e worth 1 drift 0;claim f at e;");
        CHECK.given("by 0", y, y.way(4, 5), 1);
        CHECK.given("by 3", y, y.way(5, 2), 1);
        CHECK.refused("by 4", y, y.way(5, 1), 8);
        CHECK.refused("by 5", y, y.way(5, 0), 8);
        CHECK.promise(32, "if he FALLS then still, a PULL: not on GREEN");
        TalkChutes z = Check.withTable("topic a worth 1 drift 1;topic b worth 1 drift 0;claim c at b;");
        CHECK.given("b by 2", z, z.way(2, 0), 1);
        CHECK.refused("a's drift is 1", z, z.way(2, 1), 8);
        CHECK.promise(32, "if it STANDS, the DROP is 0");
        z.prop(0);
        CHECK.refused("nobody falls from what STANDS", z, z.way(2, 0), 8);
        CHECK.given("to its TOPIC", z, z.way(1, 2), 1);
    }

    private static void wayRefused() {
        CHECK.promise(32, "2");
        for (int height : NO_HEIGHTS) {
            CHECK.changesNothing("way(" + height + ", 1)", Check::rich, x -> x.way(height, 1), 2);
            CHECK.changesNothing("way(1, " + height + ")", Check::rich, x -> x.way(1, height), 2);
            CHECK.changesNothing("ahead of 5: way(0, " + height + ")", Check::rich, x -> x.way(0, height), 2);
        }
        CHECK.promise(32, "5: from GREEN");
        CHECK.changesNothing("way(0, 0)", Check::rich, x -> x.way(0, 0), 5);
        CHECK.changesNothing("way(0, 4)", Check::rich, x -> x.way(0, 4), 5);
        TalkChutes x = new TalkChutes();
        CHECK.refused("of nothing", x, x.way(0, 0), 5);
        CHECK.promise(32, "8");
        CHECK.changesNothing("way(1, 4)", Check::rich, y -> y.way(1, 4), 8);
    }

    private static void saying(TalkChutes x, int height, int to, int k, int... due) {
        for (int what = 0; what < 3; what++) {
            CHECK.given("wayAt(" + height + ", " + to + ", " + k + ", " + what + ")", x, x.wayAt(height, to, k, what), due[what]);
        }
    }

    private static void wayAt() {
        CHECK.promise(33, "from 0 on, up to the last");
        TalkChutes x = Check.withTable(LADDER);
        for (int k = 0; k < 8; k++) {
            saying(x, 1, 9, k, k, 0, k + 2);
        }
        CHECK.promise(33, "8: no such");
        CHECK.refused("the 8th, from 0 on", x, x.wayAt(1, 9, 8, 0), 8);
        CHECK.promise(33, "his HEIGHT behind it: 0 on GREEN");
        TalkChutes y = Check.withTable("topic a worth 1 drift 3;claim b at a;");
        saying(y, 1, 0, 0, 0, 0, 0);
    }

    private static void wayAtTheFirstOfSeveral() {
        CHECK.promise(33, "of several the first by SAYINGS: by CLAIMS");
        TalkChutes x = Check.withTable("topic a worth 1 drift 0;topic b worth 1 drift 0;claim c at b propped;claim d at b propped;claim e at a propped;");
        saying(x, 1, 2, 0, 0, 0, 2);
        CHECK.promise(33, "then DROPS: the least");
        TalkChutes y = Check.withTable("topic a worth 1 drift 1;topic b worth 1 drift 2;claim c at b;");
        saying(y, 1, 0, 0, 0, 0, 0);
        y.rewrite(1, 1, 0);
        saying(y, 1, 0, 0, 0, 1, 0);
        y.rewrite(0, 1, 0);
        saying(y, 1, 0, 0, 0, 2, 0);
        CHECK.promise(33, "a CLAIM ahead of another one, though its DROP is more");
        TalkChutes z = Check.withTable("topic a worth 1 drift 0;topic b worth 1 drift 0;topic c worth 1 drift 0;claim d at c;claim e at a;");
        saying(z, 2, 0, 0, 0, 3, 0);
        CHECK.promise(33, "one by one: the first SAYING decides");
        TalkChutes w = Check.withTable("topic a worth 1 drift 0;topic b worth 1 drift 0;topic c worth 1 drift 0;claim d at c propped;claim e at b propped;claim f at b propped;");
        saying(w, 1, 3, 0, 1, 0, 2);
        saying(w, 1, 3, 1, 0, 0, 3);
        CHECK.promise(33, "the shortest, though another one's CLAIMS come first");
        TalkChutes v = Check.withTable("topic a worth 1 drift 0;topic b worth 1 drift 0;claim c at a propped;claim d at b propped;");
        saying(v, 1, 2, 0, 1, 0, 2);
    }

    private static void wayAtRefused() {
        CHECK.promise(33, "2");
        for (int height : NO_HEIGHTS) {
            CHECK.changesNothing("wayAt(" + height + ", 1, 0, 9)", Check::rich, x -> x.wayAt(height, 1, 0, 9), 2);
            CHECK.changesNothing("wayAt(0, " + height + ", 0, 9)", Check::rich, x -> x.wayAt(0, height, 0, 9), 2);
        }
        CHECK.promise(33, "5: from GREEN");
        CHECK.changesNothing("wayAt(0, 1, 0, 0)", Check::rich, x -> x.wayAt(0, 1, 0, 0), 5);
        CHECK.promise(33, "5: what");
        int[] whats = {-1, 3, LEAST, MOST};
        for (int what : whats) {
            CHECK.changesNothing("wayAt(1, 3, 0, " + what + ")", Check::rich, x -> x.wayAt(1, 3, 0, what), 5);
            CHECK.changesNothing("ahead of 8", Check::rich, x -> x.wayAt(1, 4, 9, what), 5);
        }
        CHECK.promise(33, "8: by none");
        CHECK.changesNothing("wayAt(1, 4, 0, 0)", Check::rich, x -> x.wayAt(1, 4, 0, 0), 8);
        CHECK.promise(33, "8: no such");
        int[] ks = {-1, 2, LEAST, MOST};
        for (int k : ks) {
            CHECK.changesNothing("wayAt(1, 3, " + k + ", 0)", Check::rich, x -> x.wayAt(1, 3, k, 0), 8);
        }
        CHECK.changesNothing("an empty row", Check::rich, x -> x.wayAt(2, 2, 0, 2), 8);
    }

    private static void from() {
        CHECK.promise(34, "all CLAIMS that are HOLLOW: none");
        TalkChutes x = Check.withTable(LADDER);
        for (int height = 0; height <= 9; height++) {
            CHECK.given("from(" + height + ")", x, x.from(height), 0);
        }
        CHECK.promise(34, "with a DROP by 0 to 3: each is a couple, on GREEN, too");
        TalkChutes y = Check.withTable("topic a worth 1 drift 0;claim b at a;");
        CHECK.given("by 1, 2, 3", y, y.from(0), 3);
        CHECK.given("by 0", y, y.from(1), 1);
        y.rewrite(0, 1, 1);
        CHECK.given("by 0, 1, 2, 3", y, y.from(0), 4);
        CHECK.given("none", y, y.from(1), 0);
        CHECK.promise(34, "all 32 couples");
        TalkChutes z = Check.withTable("topic a worth 1 drift 3;claim b at a;claim c at a;claim d at a;claim e at a;claim f at a;claim g at a;claim h at a;claim i at a;");
        CHECK.given("from(0)", z, z.from(0), 32);
        CHECK.promise(34, "a CLAIM that STANDS has none");
        z.prop(0);
        CHECK.given("from(0)", z, z.from(0), 28);
        CHECK.given("from(1)", z, z.from(1), 0);
        CHECK.promise(34, "HEIGHT 0 of a TABLE of nothing");
        TalkChutes w = new TalkChutes();
        CHECK.given("from(0)", w, w.from(0), 0);
        CHECK.refused("from(1)", w, w.from(1), 2);
        CHECK.promise(34, "2");
        for (int height : NO_HEIGHTS) {
            CHECK.changesNothing("from(" + height + ")", Check::rich, v -> v.from(height), 2);
        }
    }

    private static void oddsThat() {
        CHECK.promise(35, "its couples by all: 0, all of them");
        TalkChutes x = Check.withTable("topic a worth 1 drift 0;claim b at a;claim c at a propped;");
        CHECK.fraction("all", x, x.oddsThat(0, 0), 1, 1);
        CHECK.fraction("none: it STANDS", x, x.oddsThat(0, 1), 0, 1);
        CHECK.promise(35, "without a common divisor");
        x.cut(1);
        CHECK.fraction("3 by 6", x, x.oddsThat(0, 1), 1, 2);
        CHECK.promise(35, "8: there is no couple");
        CHECK.changesNothing("oddsThat(3, 2)", Check::rich, y -> y.oddsThat(3, 2), 8);
        CHECK.changesNothing("oddsThat(4, 3)", Check::rich, y -> y.oddsThat(4, 3), 8);
        CHECK.promise(35, "2");
        for (int height : NO_HEIGHTS) {
            CHECK.changesNothing("oddsThat(" + height + ", 0)", Check::rich, y -> y.oddsThat(height, 0), 2);
        }
        for (int claim : NO_CLAIMS) {
            CHECK.changesNothing("oddsThat(1, " + claim + ")", Check::rich, y -> y.oddsThat(1, claim), 2);
            CHECK.changesNothing("ahead of 8", Check::rich, y -> y.oddsThat(3, claim), 2);
        }
    }

    private static TalkChutes seen(int... numbers) {
        TalkChutes x = new TalkChutes();
        x.tray(0, 0, numbers.length);
        for (int i = 0; i < numbers.length; i++) {
            x.write(0, i, numbers[i]);
        }
        return x;
    }

    private static TalkChutes sixty() {
        TalkChutes x = new TalkChutes();
        x.tray(0, 2, 60);
        for (int i = 0; i < 60; i++) {
            x.write(0, i, 9);
        }
        return x;
    }

    private static void laws() {
        CHECK.promise(36, "the first n (0 to 20) twos: 0");
        TalkChutes x = seen();
        CHECK.given("of an empty TRAY", x, x.laws(0, 0), 32);
        CHECK.promise(36, "the first n (0 to 20) twos: 20");
        TalkChutes y = sixty();
        CHECK.given("20", y, y.laws(0, 20), 4);
        y.write(0, 39, 8);
        CHECK.given("the 20th counts", y, y.laws(0, 20), 0);
        CHECK.given("not among 19", y, y.laws(0, 19), 4);
        CHECK.promise(36, "just as many numbers as asked for");
        TalkChutes z = seen(4, 2);
        CHECK.given("one two", z, z.laws(0, 1), 8);
        CHECK.promise(36, "a HEIGHT (1 to 9) where one pulled, one (0 to 9) where he landed: the edges");
        x = seen(9, 9);
        CHECK.given("9 to 9: SLOPE 0, SHIFT 0 to 3", x, x.laws(0, 1), 4);
        x = seen(9, 0);
        CHECK.given("9 to 0: none goes so low", x, x.laws(0, 1), 0);
        x = seen(9, 1);
        CHECK.given("9 to 1: 27 and 5, 6, 7 by 4", x, x.laws(0, 1), 3);
        x = seen(1, 9);
        CHECK.given("1 to 9: none goes up", x, x.laws(0, 1), 0);
        CHECK.promise(36, "rounded down");
        x = seen(1, 1);
        CHECK.given("below 4 by 4 is 0", x, x.laws(0, 1), 4 + 3 + 2 + 1);
        CHECK.promise(36, "0 at least");
        x = seen(1, 0);
        CHECK.given("lower by 1, by 2", x, x.laws(0, 1), 22);
    }

    private static void lawsRefused() {
        CHECK.promise(36, "1");
        for (int tray : NO_TRAYS) {
            CHECK.changesNothing("laws(" + tray + ", 99)", Check::rich, x -> x.laws(tray, 99), 1);
        }
        CHECK.promise(36, "3");
        CHECK.changesNothing("laws(3, -1)", Check::rich, x -> x.laws(3, -1), 3);
        CHECK.changesNothing("laws(3, 0)", Check::rich, x -> x.laws(3, 0), 3);
        CHECK.promise(36, "4: too few numbers");
        int[] tooMany = {4, 20, 21, 1 << 30, MOST};
        for (int n : tooMany) {
            CHECK.changesNothing("laws(0, " + n + ")", Check::rich, x -> x.laws(0, n), 4);
        }
        TalkChutes odd = seen(4, 2, 1);
        CHECK.refused("half a two", odd, odd.laws(0, 2), 4);
        CHECK.promise(36, "4 ahead of 5");
        TalkChutes both = seen(0, 2, 1);
        CHECK.refused("a number that can't be, too", both, both.laws(0, 2), 4);
        CHECK.promise(36, "5: n");
        int[] belowZero = {-1, LEAST};
        for (int n : belowZero) {
            CHECK.changesNothing("laws(0, " + n + ")", Check::rich, x -> x.laws(0, n), 5);
        }
        CHECK.changesNothing("laws(0, 21)", BoundsWaysTest::sixty, x -> x.laws(0, 21), 5);
        CHECK.changesNothing("laws(0, 30)", BoundsWaysTest::sixty, x -> x.laws(0, 30), 5);
        CHECK.changesNothing("laws(0, 31)", BoundsWaysTest::sixty, x -> x.laws(0, 31), 4);
        CHECK.promise(36, "5: a number in a TRAY, too");
        int[][] wrong = {{0, 0}, {10, 1}, {-1, 0}, {1, -1}, {1, 10}, {127, 1}, {1, -128}};
        for (int[] two : wrong) {
            CHECK.changesNothing(two[0] + " to " + two[1], () -> seen(4, 2, two[0], two[1]), x -> x.laws(0, 2), 5);
            TalkChutes x = seen(4, 2, two[0], two[1]);
            CHECK.given("not among the first n", x, x.laws(0, 1), 8);
        }
        CHECK.promise(36, "5: a number above an int");
        TalkChutes far = new TalkChutes();
        far.tray(0, 3, 2);
        far.write(0, 0, (1L << 32) + 4);
        far.write(0, 1, 2);
        CHECK.refused("pulled", far, far.laws(0, 1), 5);
        far.write(0, 0, 4);
        far.write(0, 1, (1L << 32) + 2);
        CHECK.refused("landed", far, far.laws(0, 1), 5);
    }

    private static void lawOf() {
        CHECK.promise(37, "of these the first by SLOPES, then SHIFTS: 0 and 0");
        TalkChutes x = seen(1, 1);
        CHECK.given("SLOPE", x, x.lawOf(0, 0, 0), 0);
        CHECK.given("SHIFT", x, x.lawOf(0, 0, 1), 0);
        CHECK.promise(37, "the last one there is: 3 and 7");
        TalkChutes y = seen(9, 1, 7, 0);
        CHECK.given("laws", y, y.laws(0, 2), 1);
        CHECK.given("SLOPE", y, y.lawOf(0, 2, 0), 3);
        CHECK.given("SHIFT", y, y.lawOf(0, 2, 1), 7);
        CHECK.promise(37, "SLOPES ahead of SHIFTS");
        TalkChutes z = seen(4, 2);
        CHECK.given("SLOPE 1 and SHIFT 4 ahead of 2 and 0", z, z.lawOf(0, 1, 0), 1);
        CHECK.given("SLOPE 1 and SHIFT 4 ahead of 2 and 0", z, z.lawOf(0, 1, 1), 4);
        CHECK.promise(37, "8: none fits");
        CHECK.changesNothing("1 to 9", () -> seen(1, 9), w -> w.lawOf(0, 1, 0), 8);
        CHECK.changesNothing("1 to 9", () -> seen(1, 9), w -> w.lawOf(0, 1, 1), 8);
        CHECK.promise(37, "1; 3; 4");
        for (int tray : NO_TRAYS) {
            CHECK.changesNothing("lawOf(" + tray + ", -1, 2)", Check::rich, w -> w.lawOf(tray, -1, 2), 1);
        }
        CHECK.changesNothing("lawOf(3, -1, 2)", Check::rich, w -> w.lawOf(3, -1, 2), 3);
        CHECK.changesNothing("lawOf(0, 4, 2)", Check::rich, w -> w.lawOf(0, 4, 2), 4);
        CHECK.promise(37, "5");
        int[] whats = {-1, 2, LEAST, MOST};
        for (int what : whats) {
            CHECK.changesNothing("lawOf(0, 1, " + what + ")", Check::rich, w -> w.lawOf(0, 1, what), 5);
            CHECK.changesNothing("ahead of 8", () -> seen(1, 9), w -> w.lawOf(0, 1, what), 5);
        }
        CHECK.changesNothing("n -1", Check::rich, w -> w.lawOf(0, -1, 0), 5);
        CHECK.changesNothing("n 21", BoundsWaysTest::sixty, w -> w.lawOf(0, 21, 0), 5);
        CHECK.changesNothing("a number in the TRAY", () -> seen(10, 1), w -> w.lawOf(0, 1, 0), 5);
    }

    private static void ask() {
        CHECK.promise(38, "8: fewer than two: none");
        CHECK.changesNothing("none", () -> seen(1, 9), x -> x.ask(0, 1), 8);
        CHECK.promise(38, "8: fewer than two: one");
        TalkChutes one = seen(9, 6, 7, 4, 6, 4);
        CHECK.given("one law", one, one.laws(0, 3), 1);
        CHECK.refused("ask", one, one.ask(0, 3), 8);
        CHECK.promise(38, "two are enough");
        TalkChutes two = seen(1, 1, 2, 2, 4, 3);
        CHECK.given("two laws", two, two.laws(0, 3), 2);
        CHECK.given("ask", two, two.ask(0, 3), 3);
        CHECK.promise(38, "of several the least: 1, if they can't be parted");
        TalkChutes alike = seen(9, 9, 1, 1);
        CHECK.given("SLOPE 0, SHIFT 0 to 3", alike, alike.laws(0, 2), 4);
        CHECK.given("ask", alike, alike.ask(0, 2), 1);
        CHECK.promise(38, "the HEIGHT (1 to 9): each of them, and none above");
        int[][] asked = {{4, 4, 1}, {5, 4, 1}, {7, 2, 2}, {8, 3, 3}, {1, 1, 4}, {6, 2, 5}, {2, 1, 6}, {1, 0, 7}, {3, 1, 8}, {2, 0, 9}};
        for (int[] a : asked) {
            TalkChutes x = seen(a[0], a[1]);
            CHECK.given("ask behind " + a[0] + " to " + a[1], x, x.ask(0, 1), a[2]);
        }
        CHECK.promise(38, "none seen: all 32");
        TalkChutes unseen = seen();
        CHECK.given("ask", unseen, unseen.ask(0, 0), 8);
        CHECK.promise(38, "1; 3; 4; 5");
        for (int tray : NO_TRAYS) {
            CHECK.changesNothing("ask(" + tray + ", -1)", Check::rich, x -> x.ask(tray, -1), 1);
        }
        CHECK.changesNothing("ask(3, -1)", Check::rich, x -> x.ask(3, -1), 3);
        CHECK.changesNothing("ask(0, 4)", Check::rich, x -> x.ask(0, 4), 4);
        CHECK.changesNothing("ask(0, -1)", Check::rich, x -> x.ask(0, -1), 5);
        CHECK.changesNothing("ask(0, 21)", BoundsWaysTest::sixty, x -> x.ask(0, 21), 5);
        CHECK.changesNothing("a number in the TRAY", () -> seen(0, 0), x -> x.ask(0, 1), 5);
    }

    private static void best() {
        CHECK.promise(39, "0 on GREEN");
        TalkChutes x = Check.withTable("odds 0;topic a worth 20 drift 1;topic b worth 20 drift 2;talker p seat 0 on a;");
        CHECK.fraction("at 1", x, x.best(0, 1), 0, 1);
        CHECK.fraction("at 2", x, x.best(0, 2), 0, 1);
        CHECK.promise(39, "nothing if the chute fails: FAILS 0, 15, 16");
        TalkChutes y = Check.withTable("topic a worth 20 drift 0;talker p seat 0 on a;talker q seat 1 on a fails 15;talker r seat 2 on a fails 16;");
        CHECK.fraction("fails 0", y, y.best(0, 1), 20, 1);
        CHECK.fraction("fails 15", y, y.best(1, 1), 5, 4);
        CHECK.fraction("fails 16", y, y.best(2, 1), 0, 1);
        CHECK.promise(39, "by ODDS sixteenths he is on GREEN: 0, 15, 16");
        TalkChutes z = Check.withTable("topic a worth 20 drift 0;topic b worth 1 drift 0;talker p seat 0 on a;");
        z.rule(0);
        CHECK.fraction("odds 0: he waits", z, z.best(0, 2), 20, 1);
        z.rule(15);
        CHECK.fraction("odds 15: he waits", z, z.best(0, 2), 5, 4);
        z.rule(16);
        CHECK.fraction("odds 16: he pulls", z, z.best(0, 2), 1, 1);
        CHECK.promise(39, "below 1 it is GREEN: to wait there is worth nothing");
        z.rewrite(0, 0, 0);
        z.rule(0);
        CHECK.fraction("at 1", z, z.best(0, 1), 0, 1);
        CHECK.promise(39, "from any HEIGHT, whether he FALLS or not");
        CHECK.given("he does not fall", z, z.talker(0, 2), 0);
        CHECK.fraction("at 2", z, z.best(0, 2), 1, 1);
        CHECK.promise(39, "the highest of nine");
        TalkChutes nine = Check.withTable(Check.FULL);
        CHECK.fraction("fails 16", nine, nine.best(5, 9), 0, 1);
    }

    private static void bestAt() {
        CHECK.promise(40, "the first, at which to PULL is worth no less than to wait: as much is enough");
        TalkChutes x = Check.withTable("odds 8;topic a worth 20 drift 0;topic b worth 10 drift 0;talker p seat 0 on a;");
        CHECK.fraction("10 or 10", x, x.best(0, 2), 10, 1);
        CHECK.given("at 2", x, x.bestAt(0, 2), 2);
        x.rule(7);
        CHECK.given("less than to wait", x, x.bestAt(0, 2), 1);
        CHECK.promise(40, "nothing on both sides: where he is");
        TalkChutes y = Check.withTable(Check.FULL);
        for (int height = 1; height <= 9; height++) {
            CHECK.given("bestAt(0, " + height + ")", y, y.bestAt(0, height), height);
        }
        CHECK.promise(40, "on down to 1");
        TalkChutes z = Check.withTable(LADDER.replace("topic a worth 1 ", "topic a worth 20 ") + "odds 0;talker p seat 0 on i;");
        for (int height = 1; height <= 9; height++) {
            CHECK.given("bestAt(0, " + height + ")", z, z.bestAt(0, height), 1);
        }
    }

    private static void bestRefused() {
        for (int talker : NO_TALKERS) {
            CHECK.promise(39, "2");
            CHECK.changesNothing("best(" + talker + ", 0), ahead of 5", Check::rich, x -> x.best(talker, 0), 2);
            CHECK.promise(40, "2");
            CHECK.changesNothing("bestAt(" + talker + ", 0), ahead of 5", Check::rich, x -> x.bestAt(talker, 0), 2);
        }
        for (int height : NO_HEIGHTS) {
            CHECK.promise(39, "2");
            CHECK.changesNothing("best(0, " + height + ")", Check::rich, x -> x.best(0, height), 2);
            CHECK.promise(40, "2");
            CHECK.changesNothing("bestAt(0, " + height + ")", Check::rich, x -> x.bestAt(0, height), 2);
        }
        CHECK.promise(39, "5: HEIGHT 0");
        CHECK.changesNothing("best(0, 0)", Check::rich, x -> x.best(0, 0), 5);
        CHECK.promise(40, "5: HEIGHT 0");
        CHECK.changesNothing("bestAt(2, 0)", Check::rich, x -> x.bestAt(2, 0), 5);
    }
}
