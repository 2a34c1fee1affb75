/** The boundary cases that promises 19 to 31 name: what is done, what bears what. */
final class BoundsDoneTest {
    private static final Check CHECK = new Check();
    private static final int LEAST = Integer.MIN_VALUE;
    private static final int MOST = Integer.MAX_VALUE;
    private static final int[] NO_TALKERS = {-1, 3, 6, LEAST, MOST};
    private static final int[] NO_CLAIMS = {-1, 5, 8, LEAST, MOST};
    private static final String T = "topic a worth 1 drift 1;";

    public static void main(String[] args) {
        say();
        sayRefused();
        drop();
        dropRefused();
        pull();
        pullRefused();
        prop();
        cut();
        lift();
        rewrite();
        think();
        anger();
        rule();
        holdsUp();
        holdsUpSet();
        bringsDown();
        CHECK.end("BoundsDoneTest");
    }

    private static void say() {
        CHECK.promise(19, "a CLAIM whose TOPIC is no more than 1 above or below his HEIGHT");
        for (int from = 1; from <= 9; from++) {
            for (int claim = 0; claim < 8; claim++) {
                TalkChutes x = Check.withTable(Check.FULL);
                x.lift(3, from);
                String call = "say from " + from + " at " + (claim + 1);
                if (Math.abs(claim + 1 - from) <= 1) {
                    CHECK.given(call, x, x.say(3, claim), claim + 1);
                } else {
                    CHECK.refused(call, x, x.say(3, claim), 9);
                    CHECK.given("he stays", x, x.talker(3, 1), from);
                    CHECK.given("nothing was said", x, x.many(5), 0);
                }
            }
        }
        CHECK.promise(19, "if it is HOLLOW, he FALLS from there");
        TalkChutes x = Check.withTable(Check.FULL);
        CHECK.given("hollow", x, x.say(5, 7), 8);
        CHECK.given("he falls", x, x.many(8), 32);
        x.prop(7);
        CHECK.given("propped", x, x.say(4, 7), 8);
        CHECK.given("another one does not", x, x.many(8), 32);
        CHECK.promise(19, "he FALLS on, though the CLAIM is PROPPED then");
        CHECK.given("talker(5, 2)", x, x.talker(5, 2), 1);
    }

    private static void sayRefused() {
        CHECK.promise(19, "2");
        for (int talker : NO_TALKERS) {
            CHECK.changesNothing("say(" + talker + ", 0)", Check::rich, x -> x.say(talker, 0), 2);
        }
        for (int claim : NO_CLAIMS) {
            CHECK.changesNothing("say(0, " + claim + ")", Check::rich, x -> x.say(0, claim), 2);
            CHECK.changesNothing("2 ahead of 9: say(1, " + claim + ")", Check::rich, x -> x.say(1, claim), 2);
        }
        CHECK.promise(19, "9: not so near");
        CHECK.changesNothing("two above", Check::rich, x -> x.say(0, 2), 9);
        CHECK.changesNothing("two below", Check::rich, x -> x.say(2, 1), 9);
        CHECK.promise(19, "9: who FALLS");
        CHECK.changesNothing("where he is", Check::rich, x -> x.say(1, 4), 9);
        CHECK.promise(19, "9: is on GREEN, though the TOPIC is 1 above");
        TalkChutes x = Check.rich();
        x.drop(1, 9);
        CHECK.refused("say(1, 0)", x, x.say(1, 0), 9);
        CHECK.given("he stays on GREEN", x, x.talker(1, 1), 0);
    }

    /** Talker 0 falls from this HEIGHT (8 at most) of a full table. */
    private static TalkChutes falling(int from) {
        TalkChutes x = Check.withTable(Check.FULL);
        x.lift(0, from);
        x.say(0, from - 1);
        return x;
    }

    private static void drop() {
        CHECK.promise(20, "by 1 to 9; n lower, 0 at least; on GREEN he FALLS no more");
        for (int from = 1; from <= 8; from++) {
            for (int by = 1; by <= 9; by++) {
                TalkChutes x = falling(from);
                int due = Math.max(0, from - by);
                CHECK.given("from " + from + " by " + by, x, x.drop(0, by), due);
                CHECK.given("he is there", x, x.talker(0, 1), due);
                CHECK.given("he falls, or not", x, x.talker(0, 2), due == 0 ? 0 : 1);
                CHECK.given("on GREEN, or not", x, x.many(9), due == 0 ? 1 : 0);
            }
        }
        CHECK.promise(20, "drops behind each other");
        TalkChutes x = falling(3);
        CHECK.given("2", x, x.drop(0, 1), 2);
        CHECK.given("1", x, x.drop(0, 1), 1);
        CHECK.given("0", x, x.drop(0, 1), 0);
        CHECK.refused("he does not fall", x, x.drop(0, 1), 9);
    }

    private static void dropRefused() {
        CHECK.promise(20, "2");
        for (int talker : NO_TALKERS) {
            CHECK.changesNothing("drop(" + talker + ", 0), ahead of 5", Check::rich, x -> x.drop(talker, 0), 2);
        }
        CHECK.promise(20, "5");
        int[] wrong = {0, -1, 10, LEAST, MOST};
        for (int by : wrong) {
            CHECK.changesNothing("drop(1, " + by + ")", Check::rich, x -> x.drop(1, by), 5);
            CHECK.changesNothing("ahead of 9: drop(0, " + by + ")", Check::rich, x -> x.drop(0, by), 5);
        }
        CHECK.promise(20, "9: he does not FALL");
        CHECK.changesNothing("drop(0, 1)", Check::rich, x -> x.drop(0, 1), 9);
        CHECK.changesNothing("drop(0, 9)", Check::rich, x -> x.drop(0, 9), 9);
    }

    private static void pull() {
        CHECK.promise(21, "lower by the DRIFT of the TOPIC where he is (0 at least)");
        for (int from = 1; from <= 8; from++) {
            for (int drift = 0; drift <= 3; drift++) {
                TalkChutes x = falling(from);
                x.rewrite(from - 1, 1, drift);
                CHECK.given("from " + from + " drift " + drift, x, x.pull(0, true), Math.max(0, from - drift));
                CHECK.given("he falls no more", x, x.talker(0, 2), 0);
            }
        }
        CHECK.promise(21, "where he is, not from where he fell");
        TalkChutes x = falling(8);
        x.rewrite(5, 1, 0);
        x.drop(0, 2);
        CHECK.given("pull at 6", x, x.pull(0, true), 6);
        CHECK.promise(21, "if the chute fails, he is on GREEN");
        TalkChutes y = falling(8);
        y.rewrite(7, 1, 0);
        CHECK.given("pull", y, y.pull(0, false), 0);
        CHECK.given("he falls no more", y, y.many(8), 0);
        CHECK.promise(21, "holds, or not, as told, whatever it FAILS by");
        TalkChutes z = falling(8);
        z.rewrite(7, 1, 1);
        CHECK.given("fails 16, but holds", z, z.pull(0, true), 7);
    }

    private static void pullRefused() {
        CHECK.promise(21, "2");
        for (int talker : NO_TALKERS) {
            CHECK.changesNothing("pull(" + talker + ", true)", Check::rich, x -> x.pull(talker, true), 2);
            CHECK.changesNothing("pull(" + talker + ", false)", Check::rich, x -> x.pull(talker, false), 2);
        }
        CHECK.promise(21, "9: he does not FALL");
        CHECK.changesNothing("pull(0, true)", Check::rich, x -> x.pull(0, true), 9);
        CHECK.changesNothing("pull(0, false)", Check::rich, x -> x.pull(0, false), 9);
        TalkChutes x = falling(1);
        x.drop(0, 1);
        CHECK.refused("on GREEN", x, x.pull(0, true), 9);
        x = falling(5);
        x.pull(0, true);
        CHECK.refused("a second time", x, x.pull(0, true), 9);
    }

    private static void prop() {
        CHECK.promise(22, "how many CLAIMS STAND then");
        TalkChutes x = Check.withTable(Check.FULL);
        for (int claim = 0; claim < 8; claim++) {
            CHECK.given("prop(" + claim + ")", x, x.prop(claim), claim + 1);
        }
        CHECK.promise(22, "what STANDS already can be PROPPED: no more STAND");
        TalkChutes y = Check.withTable(Check.TABLE);
        CHECK.given("prop(1)", y, y.prop(1), 3);
        CHECK.given("it is PROPPED", y, y.claim(1, 2), 1);
        CHECK.promise(22, "2");
        for (int claim : NO_CLAIMS) {
            CHECK.changesNothing("prop(" + claim + ")", Check::rich, z -> z.prop(claim), 2);
        }
        CHECK.promise(22, "9: it is");
        CHECK.changesNothing("prop(0)", Check::rich, z -> z.prop(0), 9);
        CHECK.changesNothing("prop(4)", Check::rich, z -> z.prop(4), 9);
        CHECK.promise(22, "who FALLS goes on falling");
        TalkChutes z = Check.rich();
        z.prop(2);
        CHECK.given("many(8)", z, z.many(8), 2);
    }

    private static void cut() {
        CHECK.promise(23, "how many CLAIMS STAND then: none");
        TalkChutes x = Check.withTable(T + "claim b at a propped;claim c at a needs b;");
        CHECK.given("cut(0)", x, x.cut(0), 0);
        CHECK.promise(23, "a CLAIM that STANDS by what it NEEDS, too, goes on to stand");
        TalkChutes y = Check.withTable(T + "claim b at a propped;claim c at a propped needs b;");
        CHECK.given("cut(1)", y, y.cut(1), 2);
        CHECK.given("it is not PROPPED", y, y.claim(1, 2), 0);
        CHECK.promise(23, "nobody FALLS by that");
        TalkChutes z = Check.withTable(Check.TABLE);
        z.say(0, 0);
        CHECK.given("cut(0)", z, z.cut(0), 1);
        CHECK.given("nobody falls", z, z.many(8), 0);
        CHECK.given("he is where he was", z, z.talker(0, 1), 1);
        CHECK.promise(23, "2");
        for (int claim : NO_CLAIMS) {
            CHECK.changesNothing("cut(" + claim + ")", Check::rich, w -> w.cut(claim), 2);
        }
        CHECK.promise(23, "9: it is not PROPPED");
        CHECK.changesNothing("it stands by rain", Check::rich, w -> w.cut(1), 9);
        CHECK.changesNothing("it is hollow", Check::rich, w -> w.cut(2), 9);
        CHECK.refused("a second time", z, z.cut(0), 9);
    }

    private static void lift() {
        CHECK.promise(24, "a HEIGHT of a TOPIC (1 and above): the lowest, the highest");
        TalkChutes x = Check.withTable(Check.FULL);
        CHECK.given("lift(5, 1)", x, x.lift(5, 1), 9);
        CHECK.given("lift(5, 9)", x, x.lift(5, 9), 1);
        CHECK.given("to where he is", x, x.lift(5, 9), 9);
        CHECK.promise(24, "FALLS no more");
        TalkChutes y = Check.rich();
        CHECK.given("lift who falls", y, y.lift(1, 3), 3);
        CHECK.given("nobody falls", y, y.many(8), 0);
        CHECK.promise(24, "his HEIGHT ahead of that: 0 on GREEN");
        y.say(1, 2);
        y.pull(1, false);
        CHECK.given("lift from GREEN", y, y.lift(1, 4), 0);
        CHECK.given("he is there", y, y.talker(1, 1), 4);
        CHECK.promise(24, "2");
        for (int talker : NO_TALKERS) {
            CHECK.changesNothing("lift(" + talker + ", 0), ahead of 5", Check::rich, z -> z.lift(talker, 0), 2);
        }
        int[] heights = {-1, 5, 10, LEAST, MOST};
        for (int height : heights) {
            CHECK.changesNothing("lift(1, " + height + ")", Check::rich, z -> z.lift(1, height), 2);
        }
        CHECK.promise(24, "5: HEIGHT 0");
        CHECK.changesNothing("lift(0, 0)", Check::rich, z -> z.lift(0, 0), 5);
        CHECK.changesNothing("lift(1, 0)", Check::rich, z -> z.lift(1, 0), 5);
    }

    private static void rewrite() {
        CHECK.promise(25, "WORTH 0 to 20, DRIFT 0 to 3: the least, the most");
        TalkChutes x = Check.withTable(Check.FULL);
        CHECK.given("worth 0", x, x.rewrite(8, 0, 0), 20);
        CHECK.given("worth 20", x, x.rewrite(8, 0, 20), 0);
        CHECK.given("the same", x, x.rewrite(8, 0, 20), 20);
        CHECK.given("drift 0", x, x.rewrite(0, 1, 0), 3);
        CHECK.given("drift 3", x, x.rewrite(0, 1, 3), 0);
        CHECK.given("worth above 3", x, x.rewrite(0, 0, 4), 20);
        CHECK.given("it is so", x, x.topic(0, 0), 4);
        CHECK.given("others are not", x, x.topic(1, 0), 20);
        CHECK.promise(25, "2");
        int[] topics = {-1, 4, 9, LEAST, MOST};
        for (int topic : topics) {
            CHECK.changesNothing("rewrite(" + topic + ", 2, 21), ahead of 5", Check::rich, z -> z.rewrite(topic, 2, 21), 2);
        }
        CHECK.promise(25, "5: what");
        int[] whats = {-1, 2, LEAST, MOST};
        for (int what : whats) {
            CHECK.changesNothing("rewrite(0, " + what + ", 1)", Check::rich, z -> z.rewrite(0, what, 1), 5);
        }
        CHECK.promise(25, "5: WORTH, DRIFT");
        int[] worths = {-1, 21, LEAST, MOST};
        for (int worth : worths) {
            CHECK.changesNothing("rewrite(0, 0, " + worth + ")", Check::rich, z -> z.rewrite(0, 0, worth), 5);
        }
        int[] drifts = {-1, 4, 20, LEAST, MOST};
        for (int drift : drifts) {
            CHECK.changesNothing("rewrite(3, 1, " + drift + ")", Check::rich, z -> z.rewrite(3, 1, drift), 5);
        }
    }

    private static void think() {
        CHECK.promise(26, "a CLAIM more, not PROPPED, that NEEDS a set of others: none, all");
        TalkChutes x = Check.withTable(Check.TABLE);
        x.prop(2);
        CHECK.given("needs none", x, x.think(0, 0), 5);
        CHECK.given("is HOLLOW", x, x.claim(5, 3), 0);
        x.prop(5);
        CHECK.given("needs all", x, x.think(3, 63), 6);
        CHECK.given("they are", x, x.claim(6, 1), 63);
        CHECK.given("not PROPPED", x, x.claim(6, 2), 0);
        CHECK.given("STANDS", x, x.claim(6, 3), 1);
        CHECK.promise(26, "its number: the eighth is 7");
        CHECK.given("the eighth", x, x.think(3, 127), 7);
        CHECK.given("many(1)", x, x.many(1), 8);
        CHECK.promise(26, "7: a ninth");
        CHECK.refused("a ninth", x, x.think(0, 0), 7);
        CHECK.refused("that needs all eight", x, x.think(0, 255), 7);
        CHECK.given("there are eight", x, x.many(1), 8);
        CHECK.promise(26, "5 ahead of 7, 2 ahead of both");
        CHECK.refused("5", x, x.think(0, 256), 5);
        CHECK.refused("5", x, x.think(0, -1), 5);
        CHECK.refused("2", x, x.think(4, 256), 2);
        CHECK.promise(26, "2: the TOPIC");
        int[] topics = {-1, 4, 9, LEAST, MOST};
        for (int topic : topics) {
            CHECK.changesNothing("think(" + topic + ", 32)", Check::rich, z -> z.think(topic, 32), 2);
        }
        CHECK.promise(26, "5: a set with what there is none of, itself, too");
        int[] sets = {32, 33, 64, 256, -1, LEAST, MOST};
        for (int set : sets) {
            CHECK.changesNothing("think(0, " + set + ")", Check::rich, z -> z.think(0, set), 5);
        }
        CHECK.promise(26, "a TABLE without CLAIMS");
        TalkChutes y = Check.withTable(T);
        CHECK.refused("5", y, y.think(0, 1), 5);
        CHECK.given("the first", y, y.think(0, 0), 0);
        CHECK.given("that needs the first", y, y.think(0, 1), 1);
    }

    private static TalkChutes six() {
        StringBuilder text = new StringBuilder(T);
        for (int i = 0; i < 6; i++) {
            text.append("talker t").append((char) ('a' + i)).append(" seat ").append(i).append(" on a;");
        }
        return Check.withTable(text.toString());
    }

    private static void anger() {
        CHECK.promise(27, "its number: at most ten");
        TalkChutes x = six();
        int feuds = 0;
        for (int i = 0; i < 5 && feuds < 10; i++) {
            for (int j = 5; j > i && feuds < 10; j--) {
                CHECK.given("anger(" + j + ", " + i + ")", x, x.anger(j, i), feuds);
                feuds++;
            }
        }
        CHECK.promise(27, "7: an 11th");
        CHECK.refused("an 11th", x, x.anger(4, 5), 7);
        CHECK.refused("ahead of 9", x, x.anger(5, 0), 7);
        CHECK.given("there are ten", x, x.many(3), 10);
        CHECK.promise(27, "5 ahead of 7, 2 ahead of both");
        CHECK.refused("5", x, x.anger(3, 3), 5);
        CHECK.refused("2", x, x.anger(6, 6), 2);
        CHECK.promise(27, "2");
        for (int talker : NO_TALKERS) {
            CHECK.changesNothing("anger(" + talker + ", 0)", Check::rich, z -> z.anger(talker, 0), 2);
            CHECK.changesNothing("anger(0, " + talker + ")", Check::rich, z -> z.anger(0, talker), 2);
            CHECK.changesNothing("ahead of 5", Check::rich, z -> z.anger(talker, talker), 2);
        }
        CHECK.promise(27, "5: of one with himself");
        CHECK.changesNothing("anger(0, 0)", Check::rich, z -> z.anger(0, 0), 5);
        CHECK.changesNothing("anger(2, 2)", Check::rich, z -> z.anger(2, 2), 5);
        CHECK.promise(27, "9: there is one, either way round");
        CHECK.changesNothing("anger(0, 1)", Check::rich, z -> z.anger(0, 1), 9);
        CHECK.changesNothing("anger(1, 0)", Check::rich, z -> z.anger(1, 0), 9);
        CHECK.changesNothing("anger(2, 1)", Check::rich, z -> z.anger(2, 1), 9);
    }

    private static void rule() {
        CHECK.promise(28, "ODDS (0 to 16)");
        TalkChutes x = Check.rich();
        int[] right = {0, 1, 15, 16};
        for (int odds : right) {
            CHECK.due("rule(" + odds + ")", x.rule(odds), true);
            CHECK.due("status", x.status(), 0);
            CHECK.given("many(4)", x, x.many(4), odds);
        }
        CHECK.promise(28, "5");
        int[] wrong = {-1, 17, LEAST, MOST};
        for (int odds : wrong) {
            CHECK.changesNothing("rule(" + odds + ")", Check::rich, z -> z.rule(odds), 5);
        }
    }

    private static final String BORNE = T + "claim b at a;claim c at a;claim d at a needs b;claim e at a needs c d;"
        + "claim f at a propped;claim g at a needs f e;claim h at a needs b c;claim i at a;";

    private static void holdsUp() {
        CHECK.promise(29, "the fewest: 0, if it STANDS");
        TalkChutes x = Check.withTable(BORNE);
        CHECK.given("f", x, x.holdsUp(4), 0);
        CHECK.promise(29, "the fewest: itself is always enough");
        int[] due = {1, 1, 1, 1, 0, 1, 1, 1};
        for (int claim = 0; claim < 8; claim++) {
            CHECK.given("holdsUp(" + claim + ")", x, x.holdsUp(claim), due[claim]);
        }
        CHECK.given("nothing is PROPPED by that", x, x.many(7), 16);
        CHECK.promise(29, "2");
        for (int claim : NO_CLAIMS) {
            CHECK.changesNothing("holdsUp(" + claim + ")", Check::rich, z -> z.holdsUp(claim), 2);
        }
    }

    private static void holdsUpSet() {
        CHECK.promise(30, "of several sets the least as a number");
        TalkChutes x = Check.withTable(BORNE);
        int[] due = {1, 2, 1, 8, 0, 8, 64, 128};
        for (int claim = 0; claim < 8; claim++) {
            CHECK.given("holdsUpSet(" + claim + ")", x, x.holdsUpSet(claim), due[claim]);
        }
        CHECK.promise(30, "to be PROPPED besides");
        x.prop(1);
        int[] then = {1, 0, 1, 1, 0, 1, 1, 128};
        for (int claim = 0; claim < 8; claim++) {
            CHECK.given("holdsUpSet(" + claim + ")", x, x.holdsUpSet(claim), then[claim]);
        }
        CHECK.promise(30, "what NEEDS nothing, what NEEDS what is HOLLOW with another one");
        x.cut(1);
        x.cut(4);
        CHECK.given("g: f and e are both hollow", x, x.holdsUpSet(5), 32);
        CHECK.promise(30, "2");
        for (int claim : NO_CLAIMS) {
            CHECK.changesNothing("holdsUpSet(" + claim + ")", Check::rich, z -> z.holdsUpSet(claim), 2);
        }
    }

    private static void bringsDown() {
        CHECK.promise(31, "itself, too: itself alone");
        TalkChutes x = Check.withTable(BORNE);
        CHECK.given("f", x, x.bringsDown(4), 16);
        CHECK.promise(31, "those that STAND and would not: all eight");
        TalkChutes y = Check.withTable(T + "claim b at a propped;claim c at a needs b;claim d at a needs c;claim e at a needs d;"
            + "claim f at a needs e;claim g at a needs f;claim h at a needs g;claim i at a needs h;");
        CHECK.given("b", y, y.bringsDown(0), 255);
        CHECK.given("i", y, y.bringsDown(7), 128);
        CHECK.promise(31, "whatever it NEEDS: it does not stand, though what it NEEDS does");
        CHECK.given("e", y, y.bringsDown(3), 248);
        CHECK.promise(31, "nor by being PROPPED");
        y.prop(3);
        CHECK.given("e", y, y.bringsDown(3), 248);
        CHECK.promise(31, "what is PROPPED besides goes on to stand");
        CHECK.given("b", y, y.bringsDown(0), 7);
        CHECK.given("all stand still", y, y.many(6), 255);
        CHECK.promise(31, "9: it is HOLLOW");
        CHECK.changesNothing("bringsDown(2)", Check::rich, z -> z.bringsDown(2), 9);
        CHECK.changesNothing("bringsDown(3)", Check::rich, z -> z.bringsDown(3), 9);
        CHECK.promise(31, "2");
        for (int claim : NO_CLAIMS) {
            CHECK.changesNothing("bringsDown(" + claim + ")", Check::rich, z -> z.bringsDown(claim), 2);
        }
    }
}
