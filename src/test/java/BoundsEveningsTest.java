import java.util.List;

/** The boundary cases that promises 49 to 53 name: live, lived, mean, mark, back. */
final class BoundsEveningsTest {
    private static final Check CHECK = new Check();
    private static final int LEAST = Integer.MIN_VALUE;
    private static final int MOST = Integer.MAX_VALUE;
    /** Two who can always say what STANDS (d) and what does not (c). */
    private static final String SMALL = "topic t worth 1 drift 0;topic u worth 2 drift 1;claim c at t;claim d at u propped;"
        + "talker a seat 0 on t fails 12;talker b seat 1 on u fails 13;";
    private static final String NINETY_NINE_BY_THREE = "loop 99;say a d;say b d;say b d;end;";

    public static void main(String[] args) {
        seeds();
        liveRefused();
        noSteps();
        threeHundredSteps();
        whatCounts();
        loops();
        tests();
        stops();
        draws();
        chutesThatFail();
        drawnOnlyIfHeFalls();
        anyWithNobody();
        livedOfNone();
        missed();
        saidAndFell();
        pulls();
        stepsLeft();
        livedIsOfTheLatest();
        mean();
        meanRefused();
        meanChangesNothing();
        mark();
        back();
        backTakesAllBack();
        backLeavesTheRest();
        CHECK.end("BoundsEveningsTest");
    }

    private static TalkChutes evening(String text) {
        return Check.withEvenings(SMALL, text);
    }

    private static void lived(TalkChutes x, int... due) {
        for (int what = 0; what < due.length; what++) {
            CHECK.given("lived(" + what + ")", x, x.lived(what), due[what]);
        }
    }

    private static void seeds() {
        CHECK.promise(49, "a seed (0 to 9,999)");
        TalkChutes x = evening("say a d;");
        CHECK.given("live(0)", x, x.live(0), 1);
        CHECK.given("live(9999)", x, x.live(9999), 1);
    }

    private static TalkChutes withoutEvenings() {
        TalkChutes x = Check.rich();
        Check.table(x, "");
        return x;
    }

    private static void liveRefused() {
        CHECK.promise(49, "5");
        int[] wrong = {-1, 10000, LEAST, MOST};
        for (int seed : wrong) {
            CHECK.changesNothing("live(" + seed + ")", Check::rich, x -> x.live(seed), 5);
            CHECK.changesNothing("ahead of 8", BoundsEveningsTest::withoutEvenings, x -> x.live(seed), 5);
        }
        CHECK.promise(49, "8: no EVENINGS");
        CHECK.changesNothing("live(0)", BoundsEveningsTest::withoutEvenings, x -> x.live(0), 8);
        CHECK.changesNothing("live(0) of a new one", TalkChutes::new, x -> x.live(0), 8);
        CHECK.promise(49, "8: a text with a FAULT is no EVENINGS");
        TalkChutes x = Check.withTable(SMALL);
        Check.evenings(x, "any");
        CHECK.refused("live(0)", x, x.live(0), 8);
    }

    private static void noSteps() {
        CHECK.promise(49, "how many STEPS were done: none, of EVENINGS of none");
        TalkChutes x = evening("");
        CHECK.given("live(0)", x, x.live(0), 0);
        lived(x, 0, 0, 0, 0, 0);
        CHECK.given("live(0) again", x, x.live(0), 0);
    }

    private static void threeHundredSteps() {
        CHECK.promise(49, "at most 300 STEPS: 299, 300, 301");
        String[] behind = {"say a d;", "say a d;say a d;", "say a d;say a d;say a d;"};
        int[] due = {299, 300, 300};
        for (int i = 0; i < 3; i++) {
            TalkChutes x = evening(NINETY_NINE_BY_THREE + behind[i]);
            CHECK.given("live(0)", x, x.live(0), due[i]);
            CHECK.given("as many said, but for the loop", x, x.lived(1), due[i] - 1);
        }
        CHECK.promise(49, "at most 300 STEPS: none is done beyond");
        TalkChutes x = evening(NINETY_NINE_BY_THREE + "say a d;say a d;cut d;");
        CHECK.given("live(0)", x, x.live(0), 300);
        CHECK.given("the 301st is not done", x, x.many(7), 2);
        x = evening(NINETY_NINE_BY_THREE + "say a d;cut d;");
        CHECK.given("live(0)", x, x.live(0), 300);
        CHECK.given("the 300th is done", x, x.many(7), 0);
        CHECK.promise(49, "at most 300 STEPS: loops within loops");
        x = evening("loop 99;loop 99;loop 99;say a d;end;end;end;");
        CHECK.given("live(0)", x, x.live(0), 300);
        CHECK.given("said", x, x.lived(1), 99 + 99 + 99 - 2);
    }

    private static void whatCounts() {
        CHECK.promise(49, "when, loop count as one each time they are come to from ahead; end does not");
        TalkChutes x = evening("loop 3;end;");
        CHECK.given("an empty loop", x, x.live(0), 1);
        x = evening("loop 3;loop 2;end;end;");
        CHECK.given("an empty loop three times", x, x.live(0), 1 + 3);
        x = evening("loop 3;loop 2;say a d;end;end;");
        CHECK.given("a loop of two three times", x, x.live(0), 1 + 3 * (1 + 2));
        x = evening("loop 4;when falls a;say a d;end;end;");
        CHECK.given("a when that does not hold four times", x, x.live(0), 1 + 4);
        x = evening("loop 4;when high a>0;say a d;end;end;");
        CHECK.given("a when that holds four times", x, x.live(0), 1 + 4 * 2);
        CHECK.promise(49, "what is MISSED is done");
        x = evening("drop a 1;pull a;prop d;cut c;");
        CHECK.given("all missed", x, x.live(0), 4);
    }

    private static void loops() {
        CHECK.promise(49, "loop n (1 to 99): as often");
        TalkChutes x = evening("loop 1;say a d;end;");
        CHECK.given("loop 1", x, x.live(0), 2);
        x = evening("loop 2;say a d;end;");
        CHECK.given("loop 2", x, x.live(0), 3);
        x = evening("loop 99;say a d;end;");
        CHECK.given("loop 99", x, x.live(0), 100);
        CHECK.promise(49, "a loop that is come to again begins again");
        x = evening("loop 3;loop 2;say a d;end;say b d;end;");
        CHECK.given("live(0)", x, x.live(0), 1 + 3 * 4);
        CHECK.given("live(0) again", x, x.live(0), 1 + 3 * 4);
    }

    private static void tests() {
        CHECK.promise(49, "high: HEIGHT against 0 to 9, by <, =, >");
        for (int height = 0; height <= 9; height++) {
            for (int against = 0; against <= 9; against++) {
                TalkChutes x = Check.withTable(Check.FULL.replace("drift 3", "drift 0"));
                if (height > 0) {
                    x.lift(0, height);
                } else {
                    x.say(0, 7);
                    x.pull(0, false);
                }
                Check.evenings(x, "when high ta<" + against + ";prop ca;end;when high ta=" + against + ";prop cb;end;when high ta>" + against + ";prop cc;end;");
                CHECK.given("live(0)", x, x.live(0), 4);
                int due = height < against ? 1 : height == against ? 2 : 4;
                CHECK.given(height + " against " + against, x, x.many(7), due);
            }
        }
        CHECK.promise(49, "stands, falls: as it is then");
        TalkChutes x = evening("when stands c;stop;end;when stands d;prop c;end;when stands c;cut c;end;when falls a;stop;end;say a c;when falls a;drop a 9;end;when falls a;stop;end;");
        CHECK.given("live(0)", x, x.live(0), 10);
        CHECK.given("a is on GREEN", x, x.many(9), 1);
    }

    private static void stops() {
        CHECK.promise(49, "stop: nothing is done behind it, whatever it is within");
        TalkChutes x = evening("stop;cut d;");
        CHECK.given("at once", x, x.live(0), 1);
        x = evening("loop 9;loop 9;when stands d;stop;end;cut d;end;end;cut d;");
        CHECK.given("within three", x, x.live(0), 4);
        CHECK.given("d is propped still", x, x.many(7), 2);
    }

    /** The draws as the document tells them, beside the class. */
    private static int[] drawsOf(int seed, int many) {
        int[] draws = new int[many];
        long s = seed;
        for (int i = 0; i < many; i++) {
            s = (s * 2971 + 10979) % 65536;
            draws[i] = (int) (s / 8);
        }
        return draws;
    }

    private static void draws() {
        CHECK.promise(49, "s becomes what is left by 65,536; the draw is the rest of s by 8, rounded down, by n");
        int[] seeds = {0, 1, 17, 18, 22, 5000, 9998, 9999};
        for (int seed : seeds) {
            StringBuilder text = new StringBuilder();
            for (int i = 0; i < 20; i++) {
                text.append("any;");
            }
            TalkChutes x = Check.withTable(Check.FULL);
            Check.evenings(x, text.toString());
            int[] heights = {9, 9, 9, 9, 9, 9};
            boolean[] falls = new boolean[6];
            int[] draws = drawsOf(seed, 60);
            int next = 0;
            for (int i = 0; i < 20; i++) {
                int talker = draws[next++] % 6;
                int claim = draws[next++] % 8;
                if (falls[talker]) {
                    next++;
                    heights[talker] = 0;
                    falls[talker] = false;
                } else if (heights[talker] > 0 && Math.abs(heights[talker] - claim - 1) <= 1) {
                    heights[talker] = claim + 1;
                    falls[talker] = true;
                }
            }
            CHECK.given("live(" + seed + ")", x, x.live(seed), 20);
            for (int i = 0; i < 6; i++) {
                CHECK.given("HEIGHT of " + i, x, x.talker(i, 1), heights[i]);
                CHECK.given("FALLS " + i, x, x.talker(i, 2), falls[i] ? 1 : 0);
            }
        }
    }

    private static void chutesThatFail() {
        CHECK.promise(49, "the chute fails, if a draw by 16 is below what it FAILS by: 0 never, 16 always, as much not");
        for (int fails = 0; fails <= 16; fails++) {
            for (int seed = 0; seed < 40; seed++) {
                TalkChutes x = Check.withTable("topic t worth 1 drift 0;claim c at t;talker a seat 0 on t fails " + fails + ";");
                Check.evenings(x, "say a c;pull a;");
                x.live(seed);
                boolean fail = drawsOf(seed, 1)[0] % 16 < fails;
                CHECK.given("fails " + fails + ", seed " + seed, x, x.talker(0, 1), fail ? 0 : 1);
            }
        }
    }

    private static void drawnOnlyIfHeFalls() {
        CHECK.promise(49, "drawn only if he FALLS");
        // of seed 0 the first draw by 16 is 12, the second 10: a (12) is held by the first alone
        TalkChutes x = evening("pull a;pull b;say a c;pull a;");
        CHECK.given("live(0)", x, x.live(0), 4);
        CHECK.given("by the first draw it holds", x, x.talker(0, 1), 1);
        TalkChutes y = evening("say b c;pull b;say a c;pull a;");
        CHECK.given("live(0)", y, y.live(0), 4);
        CHECK.given("by the second draw it fails", y, y.talker(0, 1), 0);
        CHECK.promise(49, "each live() begins with its seed");
        TalkChutes z = evening("say a c;pull a;");
        for (int i = 0; i < 3; i++) {
            z.live(0);
            CHECK.given("by the first draw it holds", z, z.talker(0, 1), 1);
        }
    }

    private static void anyWithNobody() {
        CHECK.promise(49, "any without TALKERS or CLAIMS: MISSED (no draws)");
        TalkChutes x = Check.withTable("topic t worth 1 drift 0;claim c at t;");
        Check.evenings(x, "any;any;");
        CHECK.given("without TALKERS", x, x.live(5), 2);
        lived(x, 2, 0, 0, 0, 0);
        TalkChutes y = Check.withTable("topic t worth 1 drift 0;talker a seat 0 on t;");
        Check.evenings(y, "any;any;any;");
        CHECK.given("without CLAIMS", y, y.live(5), 3);
        lived(y, 3, 0, 0, 0, 0);
        TalkChutes z = new TalkChutes();
        Check.evenings(z, "any;");
        CHECK.given("of nothing", z, z.live(5), 1);
        lived(z, 1, 0, 0, 0, 0);
        CHECK.promise(49, "any without TALKERS, CLAIMS, where there were some in a TABLE ahead");
        TalkChutes v = Check.withTable(SMALL);
        Check.table(v, "topic t worth 1 drift 0;claim c at t;claim d at t propped;");
        Check.evenings(v, "any;any;");
        CHECK.given("without TALKERS", v, v.live(5), 2);
        lived(v, 2, 0, 0, 0, 0);
        CHECK.given("nothing was said", v, v.many(5), 0);
        Check.table(v, SMALL);
        Check.table(v, "topic t worth 1 drift 0;talker a seat 0 on t;");
        Check.evenings(v, "any;any;");
        CHECK.given("without CLAIMS", v, v.live(5), 2);
        lived(v, 2, 0, 0, 0, 0);
        CHECK.given("nothing was said", v, v.many(5), 0);
        CHECK.promise(49, "any: both draws first, though he FALLS");
        // one talker, one claim: say (2 draws), then 2 draws and the third is that of the chute
        TalkChutes w = Check.withTable("topic t worth 1 drift 0;claim c at t;talker a seat 0 on t fails 8;");
        Check.evenings(w, "any;any;");
        for (int seed = 0; seed < 30; seed++) {
            w.lift(0, 1);
            w.live(seed);
            CHECK.given("seed " + seed, w, w.talker(0, 1), drawsOf(seed, 5)[4] % 16 < 8 ? 0 : 1);
            lived(w, 0, 1, 1, 1, 0);
        }
    }

    private static void livedOfNone() {
        CHECK.promise(50, "8: there was none");
        for (int what = 0; what <= 4; what++) {
            int asked = what;
            CHECK.changesNothing("lived(" + what + ")", TalkChutes::new, x -> x.lived(asked), 8);
        }
        TalkChutes x = evening("any;");
        x.live(10000);
        x.mean(0, 5);
        CHECK.refused("a refused live(), a mean() are none", x, x.lived(0), 8);
        CHECK.promise(50, "5");
        int[] wrong = {-1, 5, LEAST, MOST};
        for (int what : wrong) {
            CHECK.changesNothing("lived(" + what + ")", Check::rich, y -> y.lived(what), 5);
            CHECK.changesNothing("ahead of 8", TalkChutes::new, y -> y.lived(what), 5);
        }
    }

    private static void missedBy(String text, int steps, int missed) {
        TalkChutes x = evening(text);
        CHECK.given(text, x, x.live(0), steps);
        CHECK.given(text + " MISSED", x, x.lived(0), missed);
    }

    private static void missed() {
        CHECK.promise(50, "MISSED: a say of who FALLS");
        missedBy("say a c;say a c;", 2, 1);
        CHECK.promise(50, "MISSED: a say of who is on GREEN");
        missedBy("say a c;drop a 1;say a c;", 3, 1);
        CHECK.promise(50, "MISSED: a say of a CLAIM that is not so near");
        TalkChutes x = Check.withTable(Check.TABLE);
        Check.evenings(x, "say gus bill;say ned tune;say gus tune;say gus bill;");
        CHECK.given("live(0)", x, x.live(0), 4);
        lived(x, 2, 2, 1, 0, 0);
        CHECK.promise(50, "MISSED: a drop, pull of who does not FALL");
        missedBy("drop a 1;pull a;", 2, 2);
        missedBy("say a c;drop a 1;drop a 1;pull a;", 4, 2);
        missedBy("say a c;pull a;pull a;", 3, 1);
        CHECK.promise(50, "MISSED: a prop of what is PROPPED, a cut of what is not");
        missedBy("prop d;prop c;prop c;", 3, 2);
        missedBy("cut c;cut d;cut d;", 3, 2);
        CHECK.promise(50, "MISSED: a say by any, too");
        TalkChutes y = Check.withTable("topic t worth 1 drift 0;topic u worth 1 drift 0;topic v worth 1 drift 0;claim c at v;talker a seat 0 on t;");
        Check.evenings(y, "any;");
        CHECK.given("not so near", y, y.live(0), 1);
        lived(y, 1, 0, 0, 0, 0);
        y.lift(0, 3);
        y.say(0, 0);
        y.pull(0, false);
        CHECK.given("on GREEN", y, y.live(0), 1);
        lived(y, 1, 0, 0, 0, 0);
        CHECK.promise(50, "MISSED: not a when that does not hold, nor a loop, nor stop");
        missedBy("when falls a;end;loop 1;end;stop;", 3, 0);
    }

    private static void saidAndFell() {
        CHECK.promise(50, "how many CLAIMS were SAID, by how many of these one FELL: none, all");
        TalkChutes x = evening("say a d;say b d;");
        x.live(0);
        lived(x, 0, 2, 0, 0, 0);
        TalkChutes y = evening("say a c;say b c;");
        y.live(0);
        lived(y, 0, 2, 2, 0, 0);
        CHECK.promise(50, "of this live() alone, though many(5) goes on");
        x.live(0);
        lived(x, 0, 2, 0, 0, 0);
        CHECK.given("many(5)", x, x.many(5), 4);
    }

    private static void pulls() {
        CHECK.promise(50, "PULLS: those that fail, those by any, too; not those that are MISSED");
        TalkChutes x = Check.withTable("topic t worth 1 drift 0;claim c at t;talker a seat 0 on t fails 16;talker b seat 1 on t;");
        Check.evenings(x, "pull a;say a c;pull a;pull a;say b c;pull b;");
        CHECK.given("live(0)", x, x.live(0), 6);
        lived(x, 2, 2, 2, 2, 0);
        CHECK.given("the one fails", x, x.talker(0, 1), 0);
        CHECK.given("the other holds", x, x.talker(1, 1), 1);
        TalkChutes y = Check.withTable("topic t worth 1 drift 0;claim c at t;talker a seat 0 on t;");
        Check.evenings(y, "any;any;any;any;");
        CHECK.given("live(0)", y, y.live(0), 4);
        lived(y, 0, 2, 2, 2, 0);
    }

    private static void leftBy(String text, int steps, int left) {
        TalkChutes x = evening(text);
        CHECK.given(text, x, x.live(0), steps);
        CHECK.given(text + " left", x, x.lived(4), left);
    }

    private static void stepsLeft() {
        CHECK.promise(50, "1 if a STEP was left to be done: not behind 300 that are all");
        leftBy(NINETY_NINE_BY_THREE + "say a d;say a d;", 300, 0);
        leftBy(NINETY_NINE_BY_THREE + "say a d;loop 99;end;", 300, 0);
        leftBy(NINETY_NINE_BY_THREE + "when stands d;say a d;end;", 300, 0);
        CHECK.promise(50, "1 if a STEP was left to be done: a 301st of any kind");
        leftBy(NINETY_NINE_BY_THREE + "say a d;say a d;say a d;", 300, 1);
        leftBy(NINETY_NINE_BY_THREE + "say a d;say a d;stop;", 300, 1);
        leftBy(NINETY_NINE_BY_THREE + "say a d;say a d;when falls a;end;", 300, 1);
        leftBy(NINETY_NINE_BY_THREE + "say a d;say a d;loop 1;end;", 300, 1);
        leftBy(NINETY_NINE_BY_THREE + "when stands d;say a d;end;say a d;", 300, 1);
        CHECK.promise(50, "1 if a STEP was left to be done: one more time round");
        leftBy(NINETY_NINE_BY_THREE + "loop 1;say a d;end;", 300, 0);
        leftBy(NINETY_NINE_BY_THREE + "loop 2;say a d;end;", 300, 1);
        CHECK.promise(50, "1 if a STEP was left to be done: what a when leaves out is none");
        leftBy(NINETY_NINE_BY_THREE + "say a d;when falls a;say a d;end;", 300, 0);
        CHECK.promise(50, "1 if a STEP was left to be done: of this live(), not of one ahead");
        TalkChutes x = evening(NINETY_NINE_BY_THREE + "loop 9;say a d;end;");
        CHECK.given("live(0)", x, x.live(0), 300);
        lived(x, 0, 298, 0, 0, 1);
        Check.evenings(x, "drop a 1;");
        CHECK.given("live(0)", x, x.live(0), 1);
        lived(x, 1, 0, 0, 0, 0);
        CHECK.promise(50, "1 if a STEP was left to be done: not behind a stop");
        leftBy("stop;say a d;", 1, 0);
        leftBy(NINETY_NINE_BY_THREE + "say a d;stop;say a d;", 300, 0);
    }

    private static void livedIsOfTheLatest() {
        CHECK.promise(50, "of live() latest with STATUS 0");
        TalkChutes x = evening("say a d;drop a 1;");
        x.mark();
        x.live(0);
        lived(x, 1, 1, 0, 0, 0);
        x.live(-1);
        lived(x, 1, 1, 0, 0, 0);
        x.mean(0, 3);
        lived(x, 1, 1, 0, 0, 0);
        x.back();
        lived(x, 1, 1, 0, 0, 0);
        x.table(0);
        CHECK.refused("no EVENINGS", x, x.live(0), 8);
        lived(x, 1, 1, 0, 0, 0);
        Check.evenings(x, "any;any;any;");
        lived(x, 1, 1, 0, 0, 0);
        x.live(0);
        lived(x, 3, 0, 0, 0, 0);
    }

    private static void mean() {
        CHECK.promise(51, "by so many seeds (1 to 20) from one on");
        String text = "say a c;pull a;say b c;pull b;";
        for (int many = 1; many <= 20; many++) {
            int sum = 0;
            for (int seed = 33; seed < 33 + many; seed++) {
                TalkChutes y = evening(text);
                y.live(seed);
                sum += y.talker(0, 1) + y.talker(1, 1);
            }
            TalkChutes x = evening(text);
            CHECK.due("mean(33, " + many + ")", x.mean(33, many), true);
            CHECK.due("status", x.status(), 0);
            CHECK.due("the mean of " + many, x.top() * many, sum * x.bottom());
        }
        CHECK.promise(51, "the first, the last seed");
        TalkChutes x = evening(text);
        CHECK.due("mean(0, 20)", x.mean(0, 20), true);
        CHECK.due("mean(9999, 1)", x.mean(9999, 1), true);
        CHECK.due("mean(9980, 20)", x.mean(9980, 20), true);
        CHECK.promise(51, "without a common divisor");
        TalkChutes y = evening("");
        CHECK.fraction("60 by 20", y, y.mean(0, 20), 3, 1);
        CHECK.promise(51, "all HEIGHTS together: no TALKERS, all on GREEN: 0 by 1");
        TalkChutes z = new TalkChutes();
        Check.evenings(z, "any;");
        CHECK.fraction("no TALKERS", z, z.mean(0, 20), 0, 1);
        TalkChutes w = evening("say a c;drop a 9;say b c;drop b 9;");
        CHECK.fraction("all on GREEN", w, w.mean(0, 20), 0, 1);
        CHECK.promise(51, "all HEIGHTS together: six at the highest");
        TalkChutes v = Check.withTable(Check.FULL);
        Check.evenings(v, "stop;");
        CHECK.fraction("six at 9", v, v.mean(9990, 10), 54, 1);
        CHECK.promise(51, "HEIGHT of who FALLS still, too");
        TalkChutes u = evening("say a c;say b c;");
        CHECK.fraction("both fall at 1", u, u.mean(0, 7), 2, 1);
    }

    private static void meanRefused() {
        CHECK.promise(51, "5: so many seeds");
        int[] wrong = {0, -1, 21, LEAST, MOST};
        for (int many : wrong) {
            CHECK.changesNothing("mean(0, " + many + ")", Check::rich, x -> x.mean(0, many), 5);
            CHECK.changesNothing("ahead of 8", BoundsEveningsTest::withoutEvenings, x -> x.mean(0, many), 5);
        }
        CHECK.promise(51, "5: the seed");
        int[] seeds = {-1, 10000, LEAST, MOST, MOST - 19};
        for (int seed : seeds) {
            CHECK.changesNothing("mean(" + seed + ", 1)", Check::rich, x -> x.mean(seed, 1), 5);
            CHECK.changesNothing("mean(" + seed + ", 20)", Check::rich, x -> x.mean(seed, 20), 5);
        }
        CHECK.promise(51, "5: the last above 9,999, too");
        CHECK.changesNothing("mean(9999, 2)", Check::rich, x -> x.mean(9999, 2), 5);
        CHECK.changesNothing("mean(9981, 20)", Check::rich, x -> x.mean(9981, 20), 5);
        CHECK.promise(51, "8");
        CHECK.changesNothing("mean(0, 1)", BoundsEveningsTest::withoutEvenings, x -> x.mean(0, 1), 8);
        CHECK.changesNothing("mean(9980, 20)", TalkChutes::new, x -> x.mean(9980, 20), 8);
    }

    private static void meanChangesNothing() {
        CHECK.promise(51, "all stays as it is");
        TalkChutes x = Check.rich();
        TalkChutes y = Check.rich();
        x.chutes(0);
        y.chutes(0);
        CHECK.due("mean", x.mean(0, 20), true);
        x.chutes(0);
        CHECK.due("all but the FRACTION", Whole.told(x).equals(Whole.told(y)), true);
    }

    private static void mark() {
        CHECK.promise(52, "how many there are: at most 3");
        TalkChutes x = new TalkChutes();
        for (int i = 1; i <= 3; i++) {
            CHECK.given("mark()", x, x.mark(), i);
        }
        CHECK.promise(52, "7: one too many");
        CHECK.refused("mark()", x, x.mark(), 7);
        CHECK.refused("mark() again", x, x.mark(), 7);
        CHECK.given("there are three", x, x.back(), 2);
        CHECK.given("mark() again", x, x.mark(), 3);
        CHECK.changesNothing("a fourth", BoundsEveningsTest::markedThree, y -> y.mark(), 7);
        CHECK.promise(52, "a MARK changes nothing else");
        TalkChutes z = Check.rich();
        List<Long> before = Whole.stays(z);
        CHECK.given("a third", z, z.mark(), 3);
        CHECK.due("all stays", before.equals(Whole.stays(z)), true);
    }

    private static TalkChutes markedThree() {
        TalkChutes x = Check.rich();
        x.rule(1);
        x.mark();
        x.rule(2);
        return x;
    }

    private static void back() {
        CHECK.promise(53, "8: there is none");
        CHECK.changesNothing("back()", TalkChutes::new, x -> x.back(), 8);
        CHECK.promise(53, "to the latest MARK, which is gone then: how many there are left");
        TalkChutes x = Check.withTable(SMALL);
        for (int odds = 1; odds <= 3; odds++) {
            x.rule(odds);
            x.mark();
        }
        x.rule(9);
        for (int left = 2; left >= 0; left--) {
            CHECK.given("back()", x, x.back(), left);
            CHECK.given("as at that MARK", x, x.many(4), left + 1);
        }
        CHECK.refused("none is left", x, x.back(), 8);
        CHECK.given("as at the first", x, x.many(4), 1);
        CHECK.promise(53, "a MARK of a TABLE of nothing");
        TalkChutes y = new TalkChutes();
        y.mark();
        Check.table(y, Check.FULL);
        CHECK.given("back()", y, y.back(), 0);
        CHECK.given("no TOPICS", y, y.many(0), 0);
        CHECK.given("ODDS 4", y, y.many(4), 4);
        CHECK.promise(53, "MARKS stay as a new TABLE is taken");
        TalkChutes z = Check.withTable(Check.FULL);
        z.mark();
        Check.table(z, SMALL);
        CHECK.given("a second", z, z.mark(), 2);
        CHECK.given("back()", z, z.back(), 1);
        CHECK.given("SMALL", z, z.many(0), 2);
        CHECK.given("back()", z, z.back(), 0);
        CHECK.given("FULL", z, z.many(3), 10);
    }

    private static void backTakesAllBack() {
        CHECK.promise(53, "the TABLE with all that became of it");
        TalkChutes x = Check.withTable(Check.TABLE);
        x.say(1, 2);
        x.mark();
        List<Long> before = Whole.stays(x);
        x.drop(1, 1);
        x.pull(1, true);
        x.say(0, 1);
        x.prop(2);
        x.cut(0);
        x.lift(2, 1);
        x.rewrite(0, 0, 20);
        x.rewrite(3, 1, 0);
        x.think(2, 3);
        x.anger(0, 2);
        x.rule(16);
        CHECK.due("it is another one", before.equals(Whole.stays(x)), false);
        CHECK.given("back()", x, x.back(), 0);
        CHECK.due("all is as it was", before.equals(Whole.stays(x)), true);
        CHECK.given("who falls goes on to", x, x.drop(1, 1), 2);
        CHECK.promise(53, "the EVENINGS, none, too");
        TalkChutes y = Check.withTable(Check.TABLE);
        y.mark();
        Check.evenings(y, "any;");
        y.mark();
        Check.evenings(y, "any;any;");
        y.mark();
        y.table(0);
        CHECK.refused("none", y, y.live(0), 8);
        y.back();
        CHECK.given("two", y, y.live(0), 2);
        y.back();
        CHECK.given("one", y, y.live(0), 1);
        y.back();
        CHECK.refused("none", y, y.live(0), 8);
        CHECK.promise(53, "the NAMES with it");
        TalkChutes z = Check.withTable(Check.TABLE);
        z.mark();
        Check.table(z, SMALL);
        CHECK.refused("gus is gone", z, Check.evenings(z, "pull gus;"), 10);
        z.back();
        CHECK.given("gus is back", z, Check.evenings(z, "pull gus;"), 1);
        CHECK.refused("a is gone", z, Check.evenings(z, "pull a;"), 10);
    }

    private static void backLeavesTheRest() {
        CHECK.promise(53, "TRAYS, the tape, the FRACTION, lived() are no part of a MARK");
        TalkChutes x = Check.withEvenings(Check.TABLE, "say gus tune;");
        x.tray(0, 0, 2);
        x.mark();
        x.write(0, 0, 7);
        x.tray(1, 1, 3);
        x.chutes(2);
        x.live(0);
        Check.feed(x, "any;");
        x.back();
        CHECK.given("the TRAY's number", x, x.read(0, 0), 7);
        CHECK.given("the new TRAY", x, x.read(1, 2), 0);
        CHECK.due("the FRACTION", x.top() * 100 + x.bottom(), 304);
        lived(x, 0, 1, 0, 0, 0);
        CHECK.given("he is where he was", x, x.talker(0, 1), 1);
        CHECK.given("the tape", x, x.evenings(4), 1);
    }
}
