/** The boundary cases that promises 41 to 48 name: feuds, games, odds. */
final class BoundsFeudsTest {
    private static final Check CHECK = new Check();
    private static final int LEAST = Integer.MIN_VALUE;
    private static final int MOST = Integer.MAX_VALUE;
    private static final int[] NO_TALKERS = {-1, 3, 6, LEAST, MOST};
    private static final int[] NO_TOPICS = {0, -1, 5, LEAST, MOST};

    public static void main(String[] args) {
        peace();
        quarrels();
        quarrelsRefused();
        spread();
        feudsAreThoseOfNow();
        spreadRefused();
        seating();
        seatOf();
        game();
        gameOfThoseWhoCannot();
        gameRefused();
        moveOf();
        moveOfRefused();
        chutes();
        chutesRefused();
        CHECK.end("BoundsFeudsTest");
    }

    /** So many talkers, and feuds told as twos of letters. */
    private static TalkChutes talkers(int many, String feuds) {
        StringBuilder text = new StringBuilder("topic t worth 1 drift 1;");
        for (int i = 0; i < many; i++) {
            text.append("talker ").append((char) ('a' + i)).append(" seat ").append(9 - i).append(" on t;");
        }
        for (int i = 0; i + 1 < feuds.length(); i += 3) {
            text.append("feud ").append(feuds.charAt(i)).append(' ').append(feuds.charAt(i + 1)).append(';');
        }
        return Check.withTable(text.toString());
    }

    private static void peace() {
        CHECK.promise(41, "0 without TALKERS");
        TalkChutes x = new TalkChutes();
        CHECK.given("a TABLE of nothing", x, x.peace(), 0);
        x = talkers(0, "");
        CHECK.given("a TOPIC alone", x, x.peace(), 0);
        CHECK.promise(41, "1 without FEUDS");
        for (int many = 1; many <= 6; many++) {
            x = talkers(many, "");
            CHECK.given(many + " talkers", x, x.peace(), 1);
        }
        CHECK.promise(41, "any TOPICS, more than there are, too");
        String[] all = {"ab", "ab ac bc", "ab ac ad bc bd cd", "ab ac ad ae bc bd be cd ce de"};
        for (int many = 2; many <= 5; many++) {
            x = talkers(many, all[many - 2]);
            CHECK.given("all of " + many + " feud", x, x.peace(), many);
        }
        CHECK.promise(41, "no two who FEUD: a ring of five needs three, of six two");
        x = talkers(5, "ab bc cd de ea");
        CHECK.given("five", x, x.peace(), 3);
        x = talkers(6, "ab bc cd de ef fa");
        CHECK.given("six", x, x.peace(), 2);
        CHECK.promise(41, "a FEUD more");
        x.anger(0, 2);
        CHECK.given("six and one", x, x.peace(), 3);
    }

    private static void quarrels() {
        CHECK.promise(42, "by k TOPICS (1 to 4)");
        TalkChutes x = talkers(6, "ab ac ad ae bc bd be cd ce de");
        int[] due = {10, 4, 2, 1};
        for (int k = 1; k <= 4; k++) {
            CHECK.given("quarrels(" + k + ")", x, x.quarrels(k), due[k - 1]);
        }
        CHECK.promise(42, "on k TOPICS, or fewer: more than there are TALKERS");
        TalkChutes y = talkers(2, "ab");
        int[] two = {1, 0, 0, 0};
        for (int k = 1; k <= 4; k++) {
            CHECK.given("quarrels(" + k + ")", y, y.quarrels(k), two[k - 1]);
        }
        CHECK.promise(42, "no TALKERS, no FEUDS");
        TalkChutes z = new TalkChutes();
        TalkChutes w = talkers(6, "");
        for (int k = 1; k <= 4; k++) {
            CHECK.given("quarrels(" + k + ")", z, z.quarrels(k), 0);
            CHECK.given("quarrels(" + k + ")", w, w.quarrels(k), 0);
        }
    }

    private static void quarrelsRefused() {
        CHECK.promise(42, "5");
        for (int k : NO_TOPICS) {
            CHECK.changesNothing("quarrels(" + k + ")", Check::rich, x -> x.quarrels(k), 5);
        }
        TalkChutes x = new TalkChutes();
        CHECK.refused("of nothing", x, x.quarrels(5), 5);
    }

    private static void spread(TalkChutes x, int topics, int... due) {
        for (int i = 0; i < due.length; i++) {
            CHECK.given("spread(" + topics + ", " + i + ")", x, x.spread(topics, i), due[i]);
        }
    }

    private static void spread() {
        CHECK.promise(43, "TOPICS (0 to k less 1): 1 TOPIC");
        TalkChutes x = talkers(6, "ab ac ad ae bc bd be cd ce de");
        spread(x, 1, 0, 0, 0, 0, 0, 0);
        CHECK.promise(43, "TOPICS (0 to k less 1): 4 TOPICS");
        spread(x, 4, 0, 0, 1, 2, 3, 0);
        CHECK.promise(43, "of several ways the first by TALKERS, one by one");
        spread(x, 2, 0, 0, 0, 1, 1, 0);
        spread(x, 3, 0, 0, 1, 1, 2, 0);
        spread(talkers(6, ""), 4, 0, 0, 0, 0, 0, 0);
        spread(talkers(3, "bc"), 2, 0, 0, 1);
        spread(talkers(3, "ab"), 4, 0, 1, 0);
        CHECK.promise(43, "k TOPICS, or fewer");
        spread(talkers(1, ""), 4, 0);
        spread(talkers(2, "ab"), 4, 0, 1);
    }

    private static void feudsAreThoseOfNow() {
        TalkChutes x = talkers(6, "ab ac ad ae bc bd be cd ce de");
        x.mark();
        Check.table(x, "topic t worth 1 drift 1;talker a seat 0 on t;talker b seat 1 on t;talker c seat 2 on t;");
        x.peace();
        x.back();
        CHECK.promise(41, "the FEUDS of now, not of a TABLE ahead");
        CHECK.given("five", x, x.peace(), 5);
        Check.table(x, "topic t worth 1 drift 1;talker a seat 0 on t;talker b seat 1 on t;talker c seat 2 on t;");
        CHECK.given("one", x, x.peace(), 1);
        CHECK.promise(42, "the FEUDS of now, not of a TABLE ahead");
        CHECK.given("none", x, x.quarrels(1), 0);
        CHECK.promise(44, "the FEUDS of now, not of a TABLE ahead");
        seats(x, 0, 0, 1, 2);
        CHECK.promise(43, "the way of this call, not of one ahead");
        spread(x, 1, 0, 0, 0);
        x.anger(0, 1);
        x.anger(1, 2);
        spread(x, 4, 0, 1, 0);
        spread(x, 1, 0, 0, 0);
        seats(x, 2, 0, 1, 2);
        spread(x, 1, 0, 0, 0);
        CHECK.promise(45, "the way of this call, not of one ahead");
        x.spread(1, 0);
        CHECK.given("seatOf(2)", x, x.seatOf(2), 2);
    }

    private static void spreadRefused() {
        CHECK.promise(43, "2");
        for (int talker : NO_TALKERS) {
            CHECK.changesNothing("spread(0, " + talker + "), ahead of 5", Check::rich, x -> x.spread(0, talker), 2);
        }
        TalkChutes x = new TalkChutes();
        CHECK.refused("of nothing", x, x.spread(1, 0), 2);
        CHECK.promise(43, "5");
        for (int k : NO_TOPICS) {
            CHECK.changesNothing("spread(" + k + ", 2)", Check::rich, y -> y.spread(k, 2), 5);
        }
    }

    private static void seats(TalkChutes x, int beside, int... due) {
        CHECK.given("seating()", x, x.seating(), beside);
        for (int i = 0; i < due.length; i++) {
            CHECK.given("seatOf(" + i + ")", x, x.seatOf(i), due[i]);
        }
    }

    private static void seating() {
        CHECK.promise(44, "no TALKERS, one");
        seats(new TalkChutes(), 0);
        seats(talkers(1, ""), 0, 0);
        CHECK.promise(44, "each FEUD once: of two, who are beside each other on both sides");
        seats(talkers(2, "ab"), 1, 0, 1);
        seats(talkers(2, ""), 0, 0, 1);
        CHECK.promise(44, "the last beside the first");
        seats(talkers(3, "ab ac bc"), 3, 0, 1, 2);
        seats(talkers(3, "ac"), 1, 0, 1, 2);
        seats(talkers(4, "ad"), 0, 0, 1, 3, 2);
        CHECK.promise(44, "a table of just these, whatever SEATS they have");
        seats(talkers(4, "ac bd"), 0, 0, 1, 2, 3);
        CHECK.promise(44, "six, ten FEUDS");
        TalkChutes x = talkers(6, "ab ac ad ae bc bd be cd ce de");
        CHECK.given("seating()", x, x.seating(), 4);
    }

    private static void seatOf() {
        CHECK.promise(45, "of several ways the first by TALKERS along the SEATS");
        seats(talkers(6, ""), 0, 0, 1, 2, 3, 4, 5);
        seats(talkers(6, "ab ac ad ae bc bd be cd ce de"), 4, 0, 1, 2, 3, 4, 5);
        seats(talkers(4, "ab"), 0, 0, 2, 1, 3);
        seats(talkers(6, "ab bc cd de ef fa"), 0, 0, 2, 4, 1, 5, 3);
        CHECK.promise(45, "2: as many as there are TALKERS");
        for (int seat : NO_TALKERS) {
            CHECK.changesNothing("seatOf(" + seat + ")", Check::rich, x -> x.seatOf(seat), 2);
        }
        for (int many = 0; many <= 6; many++) {
            TalkChutes x = talkers(many, "");
            CHECK.refused("the SEAT behind the last of " + many, x, x.seatOf(many), 2);
            if (many > 0) {
                CHECK.given("the last of " + many, x, x.seatOf(many - 1), many - 1);
            }
        }
    }

    private static void game() {
        CHECK.promise(46, "n turns (0 to 4): 0");
        TalkChutes x = Check.withTable(Check.TABLE);
        CHECK.given("game(0, 1, 0)", x, x.game(0, 1, 0), -4);
        CHECK.given("game(1, 0, 0)", x, x.game(1, 0, 0), 4);
        CHECK.promise(46, "by turns, the first first: 1 is the first's alone, 4 are two of each");
        int[] due = {-4, 0, -5, 0, 0};
        for (int turns = 0; turns <= 4; turns++) {
            CHECK.given("game(0, 1, " + turns + ")", x, x.game(0, 1, turns), due[turns]);
        }
        CHECK.promise(46, "STATUS tells NONE from -1");
        x.rewrite(0, 0, 6);
        CHECK.given("game(0, 1, 0)", x, x.game(0, 1, 0), -1);
        CHECK.promise(46, "or nothing: what is said may be worth less");
        TalkChutes y = Check.withTable("topic a worth 20 drift 0;topic b worth 0 drift 0;claim c at b propped;talker p seat 0 on a;talker q seat 1 on a;");
        for (int turns = 0; turns <= 4; turns++) {
            CHECK.given("game(0, 1, " + turns + ")", y, y.game(0, 1, turns), 0);
        }
        CHECK.promise(46, "no more than 1 above or below, by two turns two");
        TalkChutes z = Check.withTable("topic a worth 0 drift 0;topic b worth 0 drift 0;topic c worth 20 drift 0;claim d at b propped;claim e at c propped;talker p seat 0 on a;talker q seat 1 on a;");
        int[] far = {0, 0, 0, 20, 0};
        for (int turns = 0; turns <= 4; turns++) {
            CHECK.given("game(0, 1, " + turns + ")", z, z.game(0, 1, turns), far[turns]);
        }
        CHECK.promise(46, "nothing is done by it");
        CHECK.given("nothing was said", z, z.many(5), 0);
        CHECK.given("he is where he was", z, z.talker(0, 1), 1);
    }

    private static void gameOfThoseWhoCannot() {
        CHECK.promise(46, "a CLAIM that STANDS: a HOLLOW one is not said");
        TalkChutes x = Check.withTable("topic a worth 0 drift 0;topic b worth 20 drift 0;claim c at b;talker p seat 0 on a;talker q seat 1 on b;");
        CHECK.given("game(0, 1, 1)", x, x.game(0, 1, 1), -20);
        CHECK.promise(46, "0 on GREEN");
        x.say(1, 0);
        x.pull(1, false);
        CHECK.given("game(0, 1, 0)", x, x.game(0, 1, 0), 0);
        CHECK.given("both", x, x.game(1, 0, 4), 0);
        CHECK.promise(46, "who is on GREEN: nothing");
        x.prop(0);
        CHECK.given("the second can't", x, x.game(0, 1, 4), 20);
        CHECK.given("the first can't", x, x.game(1, 0, 4), -20);
        CHECK.promise(46, "who FALLS: nothing; the TOPIC is that where he is");
        TalkChutes y = Check.withTable("topic a worth 3 drift 0;topic b worth 20 drift 0;claim c at b propped;claim d at a;talker p seat 0 on a;talker q seat 1 on a;");
        y.say(0, 1);
        CHECK.given("the first falls at a", y, y.game(0, 1, 1), 0);
        CHECK.given("the second falls at a", y, y.game(1, 0, 2), 17);
    }

    private static void gameRefused() {
        CHECK.promise(46, "2");
        for (int talker : NO_TALKERS) {
            CHECK.changesNothing("game(" + talker + ", 0, 5), ahead of 5", Check::rich, x -> x.game(talker, 0, 5), 2);
            CHECK.changesNothing("game(0, " + talker + ", 1)", Check::rich, x -> x.game(0, talker, 1), 2);
            CHECK.changesNothing("twice", Check::rich, x -> x.game(talker, talker, 1), 2);
        }
        CHECK.promise(46, "5: one and himself, too");
        CHECK.changesNothing("game(0, 0, 1)", Check::rich, x -> x.game(0, 0, 1), 5);
        CHECK.changesNothing("game(2, 2, 0)", Check::rich, x -> x.game(2, 2, 0), 5);
        CHECK.promise(46, "5");
        int[] wrong = {-1, 5, LEAST, MOST};
        for (int turns : wrong) {
            CHECK.changesNothing("game(0, 1, " + turns + ")", Check::rich, x -> x.game(0, 1, turns), 5);
        }
    }

    private static void moveOf() {
        CHECK.promise(47, "of all that are as good the first");
        TalkChutes x = Check.withTable("topic a worth 1 drift 0;topic b worth 5 drift 0;claim c at a propped;claim d at b propped;claim e at b propped;talker p seat 0 on a;talker q seat 1 on a;");
        CHECK.given("d ahead of e", x, x.moveOf(0, 1, 1), 1);
        CHECK.given("c, then d, is as good", x, x.moveOf(0, 1, 3), 0);
        CHECK.promise(47, "nothing comes last");
        x.lift(0, 2);
        CHECK.given("to stay by d is as good", x, x.moveOf(0, 1, 1), 1);
        CHECK.promise(47, "8: nothing: it is better");
        TalkChutes y = Check.withTable("topic a worth 20 drift 0;topic b worth 0 drift 0;claim c at b propped;talker p seat 0 on a;talker q seat 1 on a;");
        CHECK.refused("moveOf(0, 1, 1)", y, y.moveOf(0, 1, 1), 8);
        CHECK.promise(47, "8: nothing: there is no CLAIM so near that STANDS");
        TalkChutes hollow = Check.withTable("topic a worth 0 drift 0;topic b worth 20 drift 0;topic c worth 20 drift 0;claim d at b;claim e at c propped;"
            + "talker p seat 0 on a;talker q seat 1 on a;");
        CHECK.refused("d is HOLLOW, e is two above", hollow, hollow.moveOf(0, 1, 3), 8);
        CHECK.promise(47, "8: nothing: he FALLS, is on GREEN");
        TalkChutes z = Check.rich();
        CHECK.refused("he falls", z, z.moveOf(1, 0, 1), 8);
        z.drop(1, 9);
        CHECK.refused("on GREEN", z, z.moveOf(1, 0, 4), 8);
        CHECK.promise(47, "turns 1 to 4");
        TalkChutes w = Check.withTable(Check.TABLE);
        for (int turns = 1; turns <= 4; turns++) {
            CHECK.given("moveOf(0, 1, " + turns + ")", w, w.moveOf(0, 1, turns), 1);
        }
    }

    private static void moveOfRefused() {
        CHECK.promise(47, "2");
        for (int talker : NO_TALKERS) {
            CHECK.changesNothing("moveOf(" + talker + ", 0, 0), ahead of 5", Check::rich, x -> x.moveOf(talker, 0, 0), 2);
            CHECK.changesNothing("moveOf(0, " + talker + ", 1)", Check::rich, x -> x.moveOf(0, talker, 1), 2);
        }
        CHECK.promise(47, "5: turns 0, too");
        CHECK.changesNothing("moveOf(0, 1, 0)", Check::rich, x -> x.moveOf(0, 1, 0), 5);
        CHECK.changesNothing("ahead of 8", Check::rich, x -> x.moveOf(1, 0, 0), 5);
        CHECK.promise(47, "5");
        int[] wrong = {-1, 5, LEAST, MOST};
        for (int turns : wrong) {
            CHECK.changesNothing("moveOf(0, 1, " + turns + ")", Check::rich, x -> x.moveOf(0, 1, turns), 5);
        }
        CHECK.changesNothing("one and himself", Check::rich, x -> x.moveOf(0, 0, 1), 5);
        CHECK.promise(47, "8");
        CHECK.changesNothing("moveOf(1, 0, 1)", Check::rich, x -> x.moveOf(1, 0, 1), 8);
    }

    private static TalkChutes failing(int... fails) {
        StringBuilder text = new StringBuilder("topic t worth 1 drift 1;");
        for (int i = 0; i < fails.length; i++) {
            text.append("talker ").append((char) ('a' + i)).append(" seat ").append(i).append(" on t fails ").append(fails[i]).append(';');
        }
        return Check.withTable(text.toString());
    }

    private static void chutes() {
        CHECK.promise(48, "of k (0 to 6): 0 or more is sure");
        TalkChutes none = new TalkChutes();
        CHECK.fraction("no TALKERS", none, none.chutes(0), 1, 1);
        TalkChutes never = failing(16, 16, 16, 16, 16, 16);
        CHECK.fraction("all fail", never, never.chutes(0), 1, 1);
        CHECK.promise(48, "more than there are TALKERS: 0 by 1");
        for (int k = 1; k <= 6; k++) {
            CHECK.fraction("no TALKERS, " + k, none, none.chutes(k), 0, 1);
        }
        TalkChutes two = failing(0, 0);
        CHECK.fraction("2 of 2", two, two.chutes(2), 1, 1);
        CHECK.fraction("3 of 2", two, two.chutes(3), 0, 1);
        CHECK.promise(48, "all six: FAILS 0, 16");
        TalkChutes sure = failing(0, 0, 0, 0, 0, 0);
        for (int k = 0; k <= 6; k++) {
            CHECK.fraction("sure, " + k, sure, sure.chutes(k), 1, 1);
            CHECK.fraction("never, " + k, never, never.chutes(k), k == 0 ? 1 : 0, 1);
        }
        CHECK.promise(48, "k or more: just k, too");
        TalkChutes half = failing(8, 8, 8, 8, 8, 8);
        long[] due = {64, 63, 57, 42, 22, 7, 1};
        for (int k = 0; k <= 6; k++) {
            long divisor = k == 0 ? 64 : k == 3 || k == 4 ? 2 : 1;
            CHECK.fraction("halves, " + k, half, half.chutes(k), due[k] / divisor, 64 / divisor);
        }
        CHECK.promise(48, "sixteenths of six");
        TalkChutes rare = failing(15, 15, 15, 15, 15, 15);
        CHECK.fraction("1 by 16 to the 6th", rare, rare.chutes(6), 1, 16777216);
    }

    private static void chutesRefused() {
        CHECK.promise(48, "5");
        int[] wrong = {-1, 7, LEAST, MOST};
        for (int k : wrong) {
            CHECK.changesNothing("chutes(" + k + ")", Check::rich, x -> x.chutes(k), 5);
        }
    }
}
