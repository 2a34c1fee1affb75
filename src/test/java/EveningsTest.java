/** Promises 49 to 53: live, lived, mean, mark, back. */
final class EveningsTest {
    private static final Check CHECK = new Check();
    private static final String SMALL = "topic t worth 1 drift 0;topic u worth 2 drift 1;claim c at t;"
        + "claim d at u propped;talker a seat 0 on t fails 12;talker b seat 1 on u fails 13;";

    public static void main(String[] args) {
        liveIsLookedAt();
        stepsAreDone();
        chutesFailByDraws();
        anyDraws();
        testsHold();
        loopsGoRound();
        threeHundredAtMost();
        meansAreTold();
        marksAreTakenBack();
        marksKeepAll();
        CHECK.end("EveningsTest");
    }

    private static void lived(TalkChutes x, int... due) {
        for (int what = 0; what < due.length; what++) {
            CHECK.given("lived " + what, x, x.lived(what), due[what]);
        }
    }

    private static TalkChutes evening(String text) {
        TalkChutes x = Check.withTable(SMALL);
        if (Check.evenings(x, text) == TalkChutes.NONE) {
            throw new IllegalStateException(text);
        }
        return x;
    }

    private static void liveIsLookedAt() {
        TalkChutes x = Check.withTable(SMALL);
        CHECK.refused("seed -1", x, x.live(-1), 5);
        CHECK.refused("seed 10000", x, x.live(10000), 5);
        CHECK.refused("no evenings", x, x.live(0), 8);
        CHECK.refused("lived what", x, x.lived(5), 5);
        CHECK.refused("lived what", x, x.lived(-1), 5);
        CHECK.refused("none lived", x, x.lived(0), 8);
        Check.evenings(x, "say a d;");
        CHECK.given("seed 9999", x, x.live(9999), 1);
        lived(x, 0, 1, 0, 0, 0);
        CHECK.refused("seed 10000", x, x.live(10000), 5);
        lived(x, 0, 1, 0, 0, 0);
        x.table(0);
        CHECK.refused("evenings are gone", x, x.live(0), 8);
        lived(x, 0, 1, 0, 0, 0);
    }

    private static void stepsAreDone() {
        TalkChutes x = evening("drop a 1;pull a;prop d;cut c;say a c;say a c;drop a 1;say a d;say b d;cut d;prop c;say b c;");
        CHECK.given("all", x, x.live(0), 12);
        lived(x, 6, 3, 1, 0, 0);
        CHECK.given("a on green", x, x.many(9), 1);
        CHECK.given("b stands at t", x, x.talker(1, 1), 1);
        CHECK.given("propped", x, x.many(7), 1);
        CHECK.given("said", x, x.many(5), 3);
        CHECK.given("nobody falls", x, x.many(8), 0);
        x.lift(0, 2);
        CHECK.given("goes on from there", x, x.live(0), 12);
        lived(x, 4, 3, 1, 0, 0);
        CHECK.given("said in all", x, x.many(5), 6);
    }

    private static void chutesFailByDraws() {
        // of seed 0 the first draw by 16 is 12, the second 10
        TalkChutes x = evening("pull a;say a c;pull a;say b c;pull b;");
        CHECK.given("live", x, x.live(0), 5);
        lived(x, 1, 2, 2, 2, 0);
        CHECK.given("12 is not below 12", x, x.talker(0, 1), 1);
        CHECK.given("10 is below 13", x, x.talker(1, 1), 0);
    }

    private static void anyDraws() {
        // of seed 0 come 1372, 7274, 3415, 49: talker 0, claim 0, talker 1, claim 1
        TalkChutes x = evening("any;any;");
        CHECK.given("live", x, x.live(0), 2);
        lived(x, 0, 2, 1, 0, 0);
        CHECK.given("a says c, and falls", x, x.many(8), 1);
        CHECK.given("b says d", x, x.talker(1, 1), 2);
        TalkChutes y = new TalkChutes();
        Check.evenings(y, "any;");
        CHECK.given("nobody", y, y.live(0), 1);
        lived(y, 1, 0, 0, 0, 0);
        Check.table(y, "topic t worth 1 drift 0;talker a seat 0 on t;");
        Check.evenings(y, "any;loop 3;any;end;");
        CHECK.given("no claims", y, y.live(0), 5);
        lived(y, 4, 0, 0, 0, 0);
    }

    private static void testsHold() {
        String marks = "when high a < 1;prop c;end;when high a = 1;prop c;end;when high a > 1;prop c;end;"
            + "when stands c;cut d;end;when falls a;cut d;end;stop;cut d;";
        TalkChutes x = evening(marks);
        CHECK.given("a at 1", x, x.live(0), 5 + 2 + 1);
        lived(x, 0, 0, 0, 0, 0);
        CHECK.given("c is propped, d is not", x, x.many(7), 1);
        x = evening(marks);
        x.lift(0, 2);
        x.say(0, 0);
        x.cut(1);
        CHECK.given("a falls at 1", x, x.live(0), 5 + 3 + 1);
        lived(x, 2, 0, 0, 0, 0);
        x = evening("when high a > 0;when high a < 2;when high a = 0;stop;end;prop c;end;end;prop c;");
        CHECK.given("within each other", x, x.live(0), 5);
        lived(x, 1, 0, 0, 0, 0);
    }

    private static void loopsGoRound() {
        TalkChutes x = evening("loop 3;loop 2;say a d;end;say b d;end;");
        CHECK.given("live", x, x.live(0), 1 + 3 * (1 + 2 + 1));
        lived(x, 0, 9, 0, 0, 0);
        x = evening("loop 99;end;loop 1;end;say a d;");
        CHECK.given("empty loops", x, x.live(0), 3);
        x = evening("loop 5;say a d;stop;end;say a d;");
        CHECK.given("stop", x, x.live(0), 3);
        lived(x, 0, 1, 0, 0, 0);
        x = evening("loop 5;when falls a;say a d;end;end;");
        CHECK.given("when as one each time", x, x.live(0), 6);
        x = evening("loop 2;prop c;end;prop c;");
        CHECK.given("missed count", x, x.live(0), 4);
        lived(x, 2, 0, 0, 0, 0);
    }

    private static void threeHundredAtMost() {
        TalkChutes x = evening("loop 99;say a d;say b d;say b d;end;");
        CHECK.given("298", x, x.live(0), 298);
        lived(x, 0, 297, 0, 0, 0);
        x = evening("loop 99;say a d;say b d;say b d;end;say a d;say a d;");
        CHECK.given("300", x, x.live(0), 300);
        lived(x, 0, 299, 0, 0, 0);
        x = evening("loop 99;say a d;say b d;say b d;end;say a d;say a d;stop;");
        CHECK.given("301", x, x.live(0), 300);
        lived(x, 0, 299, 0, 0, 1);
        x = evening("loop 99;say a d;say b d;say b d;end;say a d;loop 99;end;");
        CHECK.given("an empty loop is the 300th", x, x.live(0), 300);
        lived(x, 0, 298, 0, 0, 0);
        x = evening("loop 99;loop 99;loop 99;end;end;end;");
        CHECK.given("loops in loops", x, x.live(0), 300);
        lived(x, 0, 0, 0, 0, 1);
        x = evening("loop 99;say a d;say b d;say b d;end;say a d;stop;say a d;");
        CHECK.given("stop is the 300th", x, x.live(0), 300);
        lived(x, 0, 298, 0, 0, 0);
    }

    private static void meansAreTold() {
        TalkChutes x = evening("say a c;pull a;say b c;pull b;");
        long[] heights = new long[30];
        for (int seed = 0; seed < 30; seed++) {
            x.mark();
            x.live(seed);
            heights[seed] = x.talker(0, 1) + x.talker(1, 1);
            x.back();
        }
        x.live(3);
        x.table(0);
        Check.table(x, SMALL);
        Check.evenings(x, "say a c;pull a;say b c;pull b;");
        for (int many = 1; many <= 20; many++) {
            long sum = 0;
            for (int i = 0; i < many; i++) {
                sum += heights[5 + i];
            }
            CHECK.due("mean", x.mean(5, many), true);
            CHECK.due("mean of " + many, x.top() * many, sum * x.bottom());
        }
        CHECK.given("all stays", x, x.many(5), 0);
        CHECK.given("all stays", x, x.talker(0, 1), 1);
        lived(x, 0, 2, 2);
        CHECK.refused("none", x, x.mean(0, 0), 5);
        CHECK.refused("21", x, x.mean(0, 21), 5);
        CHECK.refused("-1", x, x.mean(-1, 1), 5);
        CHECK.refused("10000", x, x.mean(10000, 1), 5);
        CHECK.refused("the last above", x, x.mean(9981, 20), 5);
        CHECK.refused("far", x, x.mean(Integer.MAX_VALUE, 20), 5);
        CHECK.due("the last", x.mean(9980, 20), true);
        x.table(0);
        CHECK.refused("no evenings", x, x.mean(0, 1), 8);
        CHECK.refused("5 ahead of 8", x, x.mean(0, 0), 5);
        Check.evenings(x, "any;");
        CHECK.fraction("nobody", x, x.mean(0, 7), 0, 1);
    }

    private static void marksAreTakenBack() {
        TalkChutes x = Check.withTable(SMALL);
        CHECK.refused("none", x, x.back(), 8);
        CHECK.given("one", x, x.mark(), 1);
        x.lift(0, 2);
        CHECK.given("two", x, x.mark(), 2);
        x.prop(0);
        CHECK.given("three", x, x.mark(), 3);
        CHECK.refused("a fourth", x, x.mark(), 7);
        x.cut(0);
        x.cut(1);
        CHECK.given("to the third", x, x.back(), 2);
        CHECK.given("propped", x, x.many(7), 3);
        CHECK.given("to the second", x, x.back(), 1);
        CHECK.given("propped", x, x.many(7), 2);
        CHECK.given("lifted", x, x.talker(0, 1), 2);
        CHECK.given("to the first", x, x.back(), 0);
        CHECK.given("not lifted", x, x.talker(0, 1), 1);
        CHECK.refused("none left", x, x.back(), 8);
        CHECK.given("one again", x, x.mark(), 1);
    }

    private static void marksKeepAll() {
        TalkChutes x = Check.withTable(Check.TABLE);
        Check.evenings(x, "say gus tune;say gus bill;");
        x.tray(0, 0, 3);
        x.mark();
        x.live(0);
        x.rule(1);
        x.rewrite(0, 0, 20);
        x.rewrite(1, 1, 3);
        x.think(0, 1);
        x.anger(0, 2);
        x.write(0, 0, 7);
        x.chutes(2);
        Check.table(x, SMALL);
        Check.evenings(x, "any;any;any;");
        x.fault(0);
        CHECK.given("back", x, x.back(), 0);
        int[] many = {4, 5, 3, 2, 8, 0, 19, 17, 0, 0};
        for (int what = 0; what < many.length; what++) {
            CHECK.given("many " + what, x, x.many(what), many[what]);
        }
        CHECK.given("worth", x, x.topic(0, 0), 3);
        CHECK.given("drift", x, x.topic(1, 1), 0);
        CHECK.given("seat", x, x.talker(1, 0), 3);
        CHECK.given("fails", x, x.talker(1, 3), 4);
        CHECK.given("needs", x, x.claim(3, 1), 6);
        CHECK.given("feud", x, x.feud(1, 1), 2);
        CHECK.given("trays stay", x, x.read(0, 0), 7);
        CHECK.due("the fraction stays", x.bottom(), 4);
        lived(x, 0, 2, 1, 0, 0);
        CHECK.given("the evenings are back", x, x.live(0), 2);
        CHECK.given("he falls", x, x.many(8), 1);
        CHECK.given("names are back", x, Check.evenings(x, "say ned soul;"), 1);
        TalkChutes y = Check.withTable(SMALL);
        y.mark();
        Check.evenings(y, "any;");
        y.back();
        CHECK.refused("no evenings, as then", y, y.live(0), 8);
    }
}
