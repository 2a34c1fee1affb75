/** Promises 19 to 31: what is done, what bears what. */
final class DoingsTest {
    private static final Check CHECK = new Check();

    public static void main(String[] args) {
        claimsAreSaid();
        dropsAndPulls();
        propsAndCuts();
        talkersAreLifted();
        topicsAreRewritten();
        claimsAreThought();
        feudsAreAdded();
        oddsAreRuled();
        claimsAreHeldUp();
        claimsAreBroughtDown();
        CHECK.end("DoingsTest");
    }

    private static void claimsAreSaid() {
        TalkChutes x = Check.withTable(Check.TABLE);
        CHECK.refused("no talker", x, x.say(3, 0), 2);
        CHECK.refused("no talker", x, x.say(-1, 0), 2);
        CHECK.refused("no claim", x, x.say(0, 5), 2);
        CHECK.refused("no claim", x, x.say(0, -1), 2);
        CHECK.refused("too high", x, x.say(0, 2), 9);
        CHECK.refused("too low", x, x.say(2, 1), 9);
        CHECK.given("at his own", x, x.say(0, 0), 1);
        CHECK.given("said", x, x.many(5), 1);
        CHECK.given("one above", x, x.say(0, 1), 2);
        CHECK.given("one below", x, x.say(0, 0), 1);
        CHECK.given("he stands", x, x.talker(0, 2), 0);
        CHECK.given("a hollow one", x, x.say(1, 2), 3);
        CHECK.given("he falls", x, x.talker(1, 2), 1);
        CHECK.given("those who fall", x, x.many(8), 2);
        CHECK.refused("who falls", x, x.say(1, 4), 9);
        CHECK.given("said in all", x, x.many(5), 4);
        x.drop(1, 9);
        CHECK.refused("on green", x, x.say(1, 0), 9);
    }

    private static void dropsAndPulls() {
        TalkChutes x = Check.withTable(Check.TABLE);
        CHECK.refused("no talker ahead of 5", x, x.drop(3, 0), 2);
        CHECK.refused("by 0", x, x.drop(0, 0), 5);
        CHECK.refused("by 10", x, x.drop(0, 10), 5);
        CHECK.refused("does not fall", x, x.drop(0, 1), 9);
        CHECK.refused("no talker", x, x.pull(3, true), 2);
        CHECK.refused("no talker", x, x.pull(-1, true), 2);
        CHECK.refused("does not fall", x, x.pull(0, true), 9);
        CHECK.given("ned", x, x.say(2, 3), 4);
        CHECK.given("one lower", x, x.drop(2, 1), 3);
        CHECK.given("he falls", x, x.talker(2, 2), 1);
        CHECK.given("by drift 2", x, x.pull(2, true), 1);
        CHECK.given("he falls no more", x, x.talker(2, 2), 0);
        CHECK.given("may", x, x.say(1, 2), 3);
        CHECK.given("to green", x, x.drop(1, 3), 0);
        CHECK.given("falls no more", x, x.many(8), 0);
        CHECK.refused("on green", x, x.pull(1, true), 9);
        x.lift(1, 4);
        x.say(1, 3);
        x.drop(1, 3);
        CHECK.given("0 at least", x, x.pull(1, true), 0);
        x.lift(1, 3);
        x.say(1, 3);
        CHECK.given("the chute fails", x, x.pull(1, false), 0);
        CHECK.given("falls no more", x, x.many(8), 0);
        x.lift(1, 4);
        x.say(1, 3);
        CHECK.given("drift 3", x, x.pull(1, true), 1);
        x.lift(1, 4);
        x.say(1, 3);
        CHECK.given("by 9", x, x.drop(1, 9), 0);
    }

    private static void propsAndCuts() {
        TalkChutes x = Check.withTable(Check.TABLE);
        CHECK.refused("no claim", x, x.prop(5), 2);
        CHECK.refused("no claim", x, x.prop(-1), 2);
        CHECK.refused("no claim", x, x.cut(5), 2);
        CHECK.refused("no claim", x, x.cut(-1), 2);
        CHECK.refused("it is", x, x.prop(0), 9);
        CHECK.refused("it is not", x, x.cut(1), 9);
        CHECK.given("prop what stands", x, x.prop(1), 3);
        CHECK.given("prop bill", x, x.prop(2), 5);
        CHECK.given("propped", x, x.many(7), 23);
        CHECK.given("say soul", x, x.say(2, 3), 4);
        CHECK.given("cut rain", x, x.cut(0), 4);
        CHECK.given("cut tune", x, x.cut(1), 2);
        CHECK.given("nobody falls", x, x.many(8), 0);
        CHECK.given("stand", x, x.many(6), 20);
        CHECK.given("cut vote, that is borne", x, x.cut(4), 2);
    }

    private static void talkersAreLifted() {
        TalkChutes x = Check.withTable(Check.TABLE);
        CHECK.refused("no talker", x, x.lift(3, 0), 2);
        CHECK.refused("no height", x, x.lift(0, 5), 2);
        CHECK.refused("no height", x, x.lift(0, -1), 2);
        CHECK.refused("green", x, x.lift(0, 0), 5);
        CHECK.given("lift", x, x.lift(0, 3), 1);
        CHECK.given("height", x, x.talker(0, 1), 3);
        x.say(0, 2);
        CHECK.given("lift who falls", x, x.lift(0, 4), 3);
        CHECK.given("he falls no more", x, x.many(8), 0);
        x.say(0, 3);
        x.pull(0, false);
        CHECK.given("lift from green", x, x.lift(0, 1), 0);
        CHECK.given("nobody on green", x, x.many(9), 0);
    }

    private static void topicsAreRewritten() {
        TalkChutes x = Check.withTable(Check.TABLE);
        CHECK.refused("no topic ahead of 5", x, x.rewrite(4, 2, 0), 2);
        CHECK.refused("no topic", x, x.rewrite(-1, 0, 0), 2);
        CHECK.refused("what 2", x, x.rewrite(0, 2, 0), 5);
        CHECK.refused("what -1", x, x.rewrite(0, -1, 0), 5);
        CHECK.refused("worth 21", x, x.rewrite(0, 0, 21), 5);
        CHECK.refused("worth -1", x, x.rewrite(0, 0, -1), 5);
        CHECK.refused("drift 4", x, x.rewrite(0, 1, 4), 5);
        CHECK.refused("drift -1", x, x.rewrite(0, 1, -1), 5);
        CHECK.given("worth", x, x.rewrite(2, 0, 20), 12);
        CHECK.given("worth", x, x.rewrite(2, 0, 0), 20);
        CHECK.given("drift", x, x.rewrite(2, 1, 3), 2);
        CHECK.given("drift", x, x.rewrite(2, 1, 0), 3);
        CHECK.given("told", x, x.topic(2, 0), 0);
        CHECK.given("told", x, x.topic(2, 1), 0);
        CHECK.given("others stay", x, x.topic(1, 0), 7);
    }

    private static void claimsAreThought() {
        TalkChutes x = Check.withTable(Check.TABLE);
        CHECK.refused("no topic ahead of 5", x, x.think(4, 32), 2);
        CHECK.refused("no topic", x, x.think(-1, 0), 2);
        CHECK.refused("no such claim", x, x.think(0, 32), 5);
        CHECK.refused("below 0", x, x.think(0, -1), 5);
        CHECK.given("think", x, x.think(3, 19), 5);
        CHECK.given("its topic", x, x.claim(5, 0), 3);
        CHECK.given("its needs", x, x.claim(5, 1), 19);
        CHECK.given("not propped", x, x.claim(5, 2), 0);
        CHECK.given("it stands", x, x.claim(5, 3), 1);
        CHECK.given("at the topic", x, x.topic(3, 2), 40);
        CHECK.given("that needs nothing", x, x.think(0, 0), 6);
        CHECK.given("is hollow", x, x.claim(6, 3), 0);
        CHECK.given("that needs what is hollow", x, x.think(0, 64 + 1), 7);
        CHECK.given("is hollow", x, x.claim(7, 3), 0);
        CHECK.refused("5 ahead of 7", x, x.think(0, 256), 5);
        CHECK.refused("a ninth", x, x.think(0, 255), 7);
        CHECK.given("eight", x, x.many(1), 8);
        CHECK.given("prop", x, x.prop(6), 6);
        CHECK.given("a thought one is said", x, x.say(2, 5), 4);
        CHECK.given("and stood", x, x.many(8), 0);
        thoughtClaimsHaveNoName();
    }

    /** A claim that is thought must not bear the name of one of a table ahead. */
    private static void thoughtClaimsHaveNoName() {
        TalkChutes x = Check.withTable(Check.TABLE);
        Check.table(x, "topic drains worth 1 drift 1;");
        CHECK.given("think", x, x.think(0, 0), 0);
        CHECK.refused("no such name", x, Check.evenings(x, "prop rain;"), 10);
        CHECK.fault("prop rain;", x, 3, 5);
    }

    private static void feudsAreAdded() {
        TalkChutes x = Check.withTable(Check.TABLE);
        CHECK.refused("no talker", x, x.anger(3, 3), 2);
        CHECK.refused("no talker", x, x.anger(0, -1), 2);
        CHECK.refused("himself", x, x.anger(1, 1), 5);
        CHECK.refused("there is one", x, x.anger(0, 1), 9);
        CHECK.refused("there is one", x, x.anger(1, 0), 9);
        CHECK.given("anger", x, x.anger(2, 0), 2);
        CHECK.given("as told", x, x.feud(2, 0), 2);
        CHECK.given("as told", x, x.feud(2, 1), 0);
        CHECK.given("feuds", x, x.many(3), 3);
        StringBuilder text = new StringBuilder("topic a worth 1 drift 1;");
        for (int i = 0; i < 6; i++) {
            text.append("talker t").append((char) ('a' + i)).append(" seat ").append(i).append(" on a;");
        }
        Check.table(x, text.toString());
        int feuds = 0;
        for (int i = 0; i < 6 && feuds < 10; i++) {
            for (int j = i + 1; j < 6 && feuds < 10; j++) {
                CHECK.given("anger", x, x.anger(i, j), feuds);
                feuds++;
            }
        }
        CHECK.refused("an 11th", x, x.anger(4, 5), 7);
        CHECK.refused("7 ahead of 9", x, x.anger(0, 1), 7);
        CHECK.refused("5 ahead of 7", x, x.anger(1, 1), 5);
    }

    private static void oddsAreRuled() {
        TalkChutes x = Check.withTable(Check.TABLE);
        CHECK.refused("17", x, x.rule(17), 5);
        CHECK.refused("-1", x, x.rule(-1), 5);
        CHECK.given("as it was", x, x.many(4), 8);
        CHECK.due("rule", x.rule(16), true);
        CHECK.given("16", x, x.many(4), 16);
        CHECK.due("rule", x.rule(0), true);
        CHECK.given("0", x, x.many(4), 0);
    }

    private static void claimsAreHeldUp() {
        TalkChutes x = Check.withTable(Check.TABLE);
        int[] many = {0, 0, 1, 1, 0};
        int[] sets = {0, 0, 4, 4, 0};
        for (int i = 0; i < many.length; i++) {
            CHECK.given("holdsUp", x, x.holdsUp(i), many[i]);
            CHECK.given("holdsUpSet", x, x.holdsUpSet(i), sets[i]);
        }
        CHECK.refused("no claim", x, x.holdsUp(5), 2);
        CHECK.refused("no claim", x, x.holdsUp(-1), 2);
        CHECK.refused("no claim", x, x.holdsUpSet(5), 2);
        CHECK.refused("no claim", x, x.holdsUpSet(-1), 2);
        x.cut(0);
        CHECK.given("itself alone", x, x.holdsUp(3), 1);
        CHECK.given("itself alone", x, x.holdsUpSet(3), 8);
        CHECK.given("by what it needs", x, x.holdsUpSet(1), 1);
        CHECK.given("nothing was propped", x, x.many(7), 16);
    }

    private static void claimsAreBroughtDown() {
        TalkChutes x = Check.withTable(Check.TABLE);
        CHECK.refused("no claim", x, x.bringsDown(5), 2);
        CHECK.refused("no claim", x, x.bringsDown(-1), 2);
        CHECK.refused("hollow", x, x.bringsDown(2), 9);
        CHECK.given("rain", x, x.bringsDown(0), 3);
        CHECK.given("tune", x, x.bringsDown(1), 2);
        CHECK.given("vote", x, x.bringsDown(4), 16);
        x.prop(2);
        CHECK.given("bill: vote is propped", x, x.bringsDown(2), 12);
        CHECK.given("rain: all above", x, x.bringsDown(0), 11);
        x.prop(1);
        CHECK.given("rain: tune is propped", x, x.bringsDown(0), 1);
        CHECK.given("all stand still", x, x.many(6), 31);
    }
}
