/** The boundary cases that promises 13 to 18 name: many, topic, claim, talker, feud, copyHeights. */
final class BoundsToldTest {
    private static final Check CHECK = new Check();
    private static final int LEAST = Integer.MIN_VALUE;
    private static final int MOST = Integer.MAX_VALUE;
    private static final String T = "topic a worth 1 drift 1;";

    public static void main(String[] args) {
        manyOfNothing();
        manyOfAll();
        manyRefused();
        topic();
        claim();
        claimsThatNeed();
        talker();
        whatHeCanSay();
        feud();
        copyHeights();
        copyHeightsRefused();
        CHECK.end("BoundsToldTest");
    }

    private static void told(TalkChutes x, int... due) {
        for (int what = 0; what < due.length; what++) {
            CHECK.given("many(" + what + ")", x, x.many(what), due[what]);
        }
    }

    private static void manyOfNothing() {
        CHECK.promise(13, "of a TABLE of nothing");
        told(new TalkChutes(), 0, 0, 0, 0, 4, 0, 0, 0, 0, 0);
        CHECK.promise(13, "topics alone");
        told(Check.withTable(T), 1, 0, 0, 0, 4, 0, 0, 0, 0, 0);
    }

    private static void manyOfAll() {
        CHECK.promise(13, "a full TABLE");
        TalkChutes x = Check.withTable(Check.FULL);
        told(x, 9, 8, 6, 10, 16, 0, 0, 0, 0, 0);
        CHECK.promise(13, "sets: 1 for CLAIM 0 .. 128 for CLAIM 7");
        for (int claim = 0; claim < 8; claim++) {
            x.prop(claim);
            CHECK.given("STAND", x, x.many(6), (1 << claim + 1) - 1);
            CHECK.given("PROPPED", x, x.many(7), (1 << claim + 1) - 1);
        }
        x.cut(7);
        CHECK.promise(13, "sets: 1 for TALKER 0 .. 32 for TALKER 5");
        for (int talker = 0; talker < 6; talker++) {
            x.say(talker, 7);
            CHECK.given("SAID", x, x.many(5), talker + 1);
            CHECK.given("FALL", x, x.many(8), (1 << talker + 1) - 1);
            CHECK.given("on GREEN", x, x.many(9), 0);
        }
        for (int talker = 0; talker < 6; talker++) {
            x.pull(talker, false);
            CHECK.given("FALL no more", x, x.many(8), 63 & -1 << talker + 1);
            CHECK.given("on GREEN", x, x.many(9), (1 << talker + 1) - 1);
        }
        CHECK.promise(13, "how many were SAID: the same one again counts, a refused one does not");
        TalkChutes y = Check.withTable(Check.TABLE);
        y.say(0, 0);
        y.say(0, 0);
        y.say(0, 2);
        CHECK.given("many(5)", y, y.many(5), 2);
        CHECK.promise(13, "a CLAIM that STANDS by what it NEEDS is not PROPPED");
        CHECK.given("STAND", y, y.many(6), 19);
        CHECK.given("PROPPED", y, y.many(7), 17);
    }

    private static void manyRefused() {
        CHECK.promise(13, "5");
        int[] wrong = {-1, 10, LEAST, MOST};
        for (int what : wrong) {
            CHECK.changesNothing("many(" + what + ")", Check::rich, x -> x.many(what), 5);
        }
    }

    private static void topic() {
        CHECK.promise(14, "the lowest, the highest TOPIC");
        TalkChutes x = Check.withTable(Check.FULL);
        int[] low = {20, 3, 1, 0};
        int[] high = {20, 3, 0, 63};
        for (int what = 0; what < 4; what++) {
            CHECK.given("topic(0, " + what + ")", x, x.topic(0, what), low[what]);
            CHECK.given("topic(8, " + what + ")", x, x.topic(8, what), high[what]);
        }
        CHECK.promise(14, "TALKERS at its HEIGHT, who FALL past it, too; not those on GREEN");
        TalkChutes y = Check.withTable(Check.TABLE);
        y.say(1, 2);
        CHECK.given("he falls from 3", y, y.topic(2, 3), 2);
        y.drop(1, 1);
        CHECK.given("he falls past 2", y, y.topic(1, 3), 2);
        CHECK.given("no more at 3", y, y.topic(2, 3), 0);
        y.drop(1, 2);
        CHECK.given("GREEN is below topic 0", y, y.topic(0, 3), 1);
        CHECK.promise(14, "CLAIMS AT it, those that were thought, too");
        y.think(0, 0);
        CHECK.given("topic(0, 2)", y, y.topic(0, 2), 33);
        CHECK.promise(14, "2");
        int[] wrong = {-1, 4, 9, LEAST, MOST};
        for (int topic : wrong) {
            CHECK.changesNothing("topic(" + topic + ", 9), ahead of 5", Check::rich, z -> z.topic(topic, 9), 2);
        }
        CHECK.promise(14, "5");
        int[] whats = {-1, 4, LEAST, MOST};
        for (int what : whats) {
            CHECK.changesNothing("topic(3, " + what + ")", Check::rich, z -> z.topic(3, what), 5);
        }
    }

    private static void claim() {
        CHECK.promise(15, "the first, the last CLAIM");
        TalkChutes x = Check.withTable(Check.FULL);
        for (int what = 0; what < 4; what++) {
            CHECK.given("claim(0, " + what + ")", x, x.claim(0, what), 0);
            CHECK.given("claim(7, " + what + ")", x, x.claim(7, what), what == 0 ? 7 : 0);
        }
        x.prop(7);
        CHECK.given("PROPPED", x, x.claim(7, 2), 1);
        CHECK.given("STANDS", x, x.claim(7, 3), 1);
        CHECK.promise(15, "2");
        int[] wrong = {-1, 5, 8, LEAST, MOST};
        for (int claim : wrong) {
            CHECK.changesNothing("claim(" + claim + ", 9), ahead of 5", Check::rich, z -> z.claim(claim, 9), 2);
        }
        CHECK.promise(15, "5");
        int[] whats = {-1, 4, LEAST, MOST};
        for (int what : whats) {
            CHECK.changesNothing("claim(4, " + what + ")", Check::rich, z -> z.claim(4, what), 5);
        }
    }

    private static void stands(TalkChutes x, int... due) {
        for (int i = 0; i < due.length; i++) {
            CHECK.given("claim(" + i + ", 3)", x, x.claim(i, 3), due[i]);
        }
    }

    private static void claimsThatNeed() {
        CHECK.promise(15, "STANDS, if it NEEDS others that all STAND (one at least)");
        TalkChutes x = Check.withTable(T + "claim b at a propped;claim c at a propped;claim d at a needs;claim e at a needs b;"
            + "claim f at a needs b c;claim g at a needs b c d;claim h at a propped needs d;claim i at a needs f e;");
        stands(x, 1, 1, 0, 1, 1, 0, 1, 1);
        x.cut(1);
        stands(x, 1, 0, 0, 1, 0, 0, 1, 0);
        x.prop(2);
        x.prop(1);
        stands(x, 1, 1, 1, 1, 1, 1, 1, 1);
        CHECK.promise(15, "STANDS by a row of seven others");
        TalkChutes y = Check.withTable(T + "claim b at a propped;claim c at a needs b;claim d at a needs c;claim e at a needs d;"
            + "claim f at a needs e;claim g at a needs f;claim h at a needs g;claim i at a needs h;");
        stands(y, 1, 1, 1, 1, 1, 1, 1, 1);
        y.cut(0);
        stands(y, 0, 0, 0, 0, 0, 0, 0, 0);
    }

    private static void talker() {
        CHECK.promise(16, "the first, the last TALKER");
        TalkChutes x = Check.withTable(Check.FULL);
        int[] first = {9, 9, 0, 16, 128};
        int[] last = {4, 9, 0, 16, 128};
        for (int what = 0; what < 5; what++) {
            CHECK.given("talker(0, " + what + ")", x, x.talker(0, what), first[what]);
            CHECK.given("talker(5, " + what + ")", x, x.talker(5, what), last[what]);
        }
        CHECK.promise(16, "HEIGHT: 1 is the lowest TOPIC, 0 is GREEN");
        TalkChutes y = Check.withTable(Check.TABLE);
        CHECK.given("on drains", y, y.talker(0, 1), 1);
        y.say(1, 2);
        CHECK.given("he FALLS", y, y.talker(1, 2), 1);
        y.drop(1, 9);
        CHECK.given("on GREEN", y, y.talker(1, 1), 0);
        CHECK.given("FALLS no more", y, y.talker(1, 2), 0);
        CHECK.promise(16, "2");
        int[] wrong = {-1, 3, 6, LEAST, MOST};
        for (int talker : wrong) {
            CHECK.changesNothing("talker(" + talker + ", 9), ahead of 5", Check::rich, z -> z.talker(talker, 9), 2);
        }
        CHECK.promise(16, "5");
        int[] whats = {-1, 5, LEAST, MOST};
        for (int what : whats) {
            CHECK.changesNothing("talker(2, " + what + ")", Check::rich, z -> z.talker(2, what), 5);
        }
    }

    private static void whatHeCanSay() {
        CHECK.promise(16, "the CLAIMS he can SAY now: no more than 1 above or below his HEIGHT");
        TalkChutes x = Check.withTable(Check.FULL);
        int[] due = {3, 7, 14, 28, 56, 112, 224, 192, 128};
        for (int height = 1; height <= 9; height++) {
            x.lift(0, height);
            CHECK.given("at " + height, x, x.talker(0, 4), due[height - 1]);
        }
        CHECK.promise(16, "none: he FALLS");
        x.say(0, 7);
        CHECK.given("he falls", x, x.talker(0, 4), 0);
        CHECK.promise(16, "none: he is on GREEN, though a CLAIM is 1 above");
        x.drop(0, 9);
        CHECK.given("on GREEN", x, x.talker(0, 4), 0);
        CHECK.promise(16, "none: there are no CLAIMS");
        TalkChutes y = Check.withTable(T + "talker p seat 1 on a;");
        CHECK.given("no claims", y, y.talker(0, 4), 0);
    }

    private static void feud() {
        CHECK.promise(17, "the first, the last FEUD, as they were told");
        TalkChutes x = Check.withTable(Check.FULL);
        CHECK.given("feud(0, 0)", x, x.feud(0, 0), 1);
        CHECK.given("feud(0, 1)", x, x.feud(0, 1), 0);
        CHECK.given("feud(9, 0)", x, x.feud(9, 0), 4);
        CHECK.given("feud(9, 1)", x, x.feud(9, 1), 3);
        TalkChutes y = Check.withTable(Check.TABLE);
        y.anger(2, 0);
        CHECK.given("feud(2, 0)", y, y.feud(2, 0), 2);
        CHECK.given("feud(2, 1)", y, y.feud(2, 1), 0);
        CHECK.promise(17, "2");
        int[] wrong = {-1, 2, 10, LEAST, MOST};
        for (int feud : wrong) {
            CHECK.changesNothing("feud(" + feud + ", 9), ahead of 5", Check::rich, z -> z.feud(feud, 9), 2);
        }
        CHECK.promise(17, "5");
        int[] whats = {-1, 2, LEAST, MOST};
        for (int what : whats) {
            CHECK.changesNothing("feud(1, " + what + ")", Check::rich, z -> z.feud(1, what), 5);
        }
    }

    private static void copyHeights() {
        CHECK.promise(18, "just as many places as TALKERS");
        TalkChutes x = Check.withTable(Check.FULL);
        x.lift(1, 1);
        x.lift(2, 8);
        x.say(2, 7);
        x.pull(2, false);
        for (int sort = 0; sort < 4; sort++) {
            x.tray(sort, sort, 6);
            CHECK.given("copyHeights", x, x.copyHeights(sort), 6);
            int[] due = {9, 1, 0, 9, 9, 9};
            for (int i = 0; i < 6; i++) {
                CHECK.given("place " + i, x, x.read(sort, i), due[i]);
            }
        }
        CHECK.promise(18, "more places than TALKERS: these stay");
        x.tray(0, 0, 7);
        x.write(0, 6, 77);
        CHECK.given("copyHeights", x, x.copyHeights(0), 6);
        CHECK.given("the seventh place", x, x.read(0, 6), 77);
        CHECK.promise(18, "no TALKERS");
        TalkChutes y = new TalkChutes();
        y.tray(0, 0, 0);
        CHECK.given("to an empty tray", y, y.copyHeights(0), 0);
        y.tray(0, 0, 1);
        y.write(0, 0, 7);
        CHECK.given("to a longer one", y, y.copyHeights(0), 0);
        CHECK.given("its number stays", y, y.read(0, 0), 7);
    }

    private static void copyHeightsRefused() {
        CHECK.promise(18, "1");
        int[] wrong = {-1, 4, LEAST, MOST};
        for (int tray : wrong) {
            CHECK.changesNothing("copyHeights(" + tray + ")", Check::rich, x -> x.copyHeights(tray), 1);
        }
        CHECK.promise(18, "3");
        CHECK.changesNothing("copyHeights(3)", Check::rich, x -> x.copyHeights(3), 3);
        CHECK.promise(18, "4: too few numbers");
        CHECK.changesNothing("two places for three", Check::rich, x -> x.copyHeights(2), 4);
        TalkChutes x = Check.withTable(Check.FULL);
        x.tray(0, 0, 5);
        CHECK.refused("five places for six", x, x.copyHeights(0), 4);
        for (int i = 0; i < 5; i++) {
            CHECK.given("nothing came", x, x.read(0, i), 0);
        }
        x.tray(0, 0, 0);
        CHECK.refused("none for six", x, x.copyHeights(0), 4);
    }
}
