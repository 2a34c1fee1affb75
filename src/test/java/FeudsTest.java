/** Promises 41 to 48: feuds, games, odds. */
final class FeudsTest {
    private static final Check CHECK = new Check();

    public static void main(String[] args) {
        nobodyIsThere();
        aPathOfFeuds();
        allOfFiveFeud();
        seatsOfSix();
        twoBesideEachOther();
        gamesArePlayed();
        movesAreTold();
        gamesAreLookedAt();
        chutesHold();
        CHECK.end("FeudsTest");
    }

    /** So many talkers, and feuds told as twos of letters. */
    private static TalkChutes talkers(int many, String feuds) {
        StringBuilder text = new StringBuilder("topic t worth 1 drift 1;");
        for (int i = 0; i < many; i++) {
            text.append("talker ").append((char) ('a' + i)).append(" seat ").append(9 - i).append(" on t;");
        }
        for (int i = 0; i + 1 < feuds.length(); i += 3) {
            text.append("feud ").append(feuds.charAt(i)).append(' ').append(feuds.charAt(i + 1)).append(';');
        }
        return Check.withTable(text.toString());
    }

    private static void spread(TalkChutes x, int topics, int quarrels, int... due) {
        CHECK.given("quarrels " + topics, x, x.quarrels(topics), quarrels);
        for (int i = 0; i < due.length; i++) {
            CHECK.given("spread " + topics + " " + i, x, x.spread(topics, i), due[i]);
        }
    }

    private static void seats(TalkChutes x, int beside, int... due) {
        CHECK.given("seating", x, x.seating(), beside);
        for (int i = 0; i < due.length; i++) {
            CHECK.given("seatOf " + i, x, x.seatOf(i), due[i]);
        }
        CHECK.refused("no seat", x, x.seatOf(due.length), 2);
        CHECK.refused("no seat", x, x.seatOf(-1), 2);
    }

    private static void nobodyIsThere() {
        TalkChutes x = new TalkChutes();
        CHECK.given("peace", x, x.peace(), 0);
        spread(x, 4, 0);
        seats(x, 0);
        TalkChutes y = talkers(1, "");
        CHECK.given("peace of one", y, y.peace(), 1);
        spread(y, 3, 0, 0);
        seats(y, 0, 0);
        TalkChutes z = talkers(3, "");
        CHECK.given("peace without feuds", z, z.peace(), 1);
        spread(z, 2, 0, 0, 0, 0);
    }

    private static void aPathOfFeuds() {
        TalkChutes x = Check.withTable(Check.TABLE);
        CHECK.given("peace", x, x.peace(), 2);
        spread(x, 1, 2, 0, 0, 0);
        spread(x, 2, 0, 0, 1, 0);
        spread(x, 4, 0, 0, 1, 0);
        seats(x, 2, 0, 1, 2);
        CHECK.refused("0 topics", x, x.quarrels(0), 5);
        CHECK.refused("5 topics", x, x.quarrels(5), 5);
        CHECK.refused("0 topics", x, x.spread(0, 0), 5);
        CHECK.refused("5 topics", x, x.spread(5, 0), 5);
        CHECK.refused("no talker ahead of 5", x, x.spread(0, 3), 2);
        CHECK.refused("no talker", x, x.spread(1, -1), 2);
        x.anger(2, 0);
        CHECK.given("peace of three", x, x.peace(), 3);
        spread(x, 2, 1, 0, 0, 1);
        spread(x, 3, 0, 0, 1, 2);
    }

    private static void allOfFiveFeud() {
        TalkChutes x = talkers(6, "ab ac ad ae bc bd be cd ce de");
        CHECK.given("peace", x, x.peace(), 5);
        spread(x, 4, 1, 0, 0, 1, 2, 3, 0);
        spread(x, 3, 2, 0, 0, 1, 1, 2, 0);
        spread(x, 1, 10, 0, 0, 0, 0, 0, 0);
    }

    private static void seatsOfSix() {
        TalkChutes x = talkers(6, "ab bc cd de ef fa");
        seats(x, 0, 0, 2, 4, 1, 5, 3);
    }

    private static void twoBesideEachOther() {
        seats(talkers(2, "ab"), 1, 0, 1);
        seats(talkers(2, ""), 0, 0, 1);
        seats(talkers(4, "ab"), 0, 0, 2, 1, 3);
        seats(talkers(4, "ac bd"), 0, 0, 1, 2, 3);
    }

    private static void gamesArePlayed() {
        TalkChutes x = Check.withTable(Check.TABLE);
        int[] gusMay = {-4, 0, -5, 0, 0};
        int[] nedGus = {17, 17, 13, 13, 8};
        for (int turns = 0; turns <= 4; turns++) {
            CHECK.given("gus, may " + turns, x, x.game(0, 1, turns), gusMay[turns]);
            CHECK.given("ned, gus " + turns, x, x.game(2, 0, turns), nedGus[turns]);
        }
        x.say(1, 2);
        CHECK.given("who falls says nothing", x, x.game(1, 0, 3), 12 - 7);
        x.drop(1, 9);
        CHECK.given("on green", x, x.game(1, 0, 4), -12);
        CHECK.given("on green", x, x.game(0, 1, 1), 7);
        CHECK.given("nothing was said", x, x.many(5), 1);
        x.rewrite(0, 0, 20);
        CHECK.given("he stays", x, x.game(0, 1, 4), 20);
        x.rewrite(2, 0, 19);
        x.rewrite(0, 0, 18);
        CHECK.given("-1 with status 0", x, x.game(0, 2, 0), -2);
        x.rewrite(0, 0, 19);
        CHECK.given("-1 with status 0", x, x.game(0, 2, 1), -1);
    }

    private static void movesAreTold() {
        TalkChutes x = Check.withTable(Check.TABLE);
        CHECK.given("tune", x, x.moveOf(0, 1, 1), 1);
        CHECK.given("tune", x, x.moveOf(0, 1, 3), 1);
        CHECK.given("vote", x, x.moveOf(1, 0, 2), 4);
        CHECK.given("rain, tune, vote: tune ahead of vote", x, x.moveOf(1, 0, 4), 1);
        CHECK.refused("nothing is better", x, x.moveOf(2, 0, 4), 8);
        x.lift(1, 3);
        CHECK.given("a claim comes ahead of nothing", x, x.moveOf(1, 0, 1), 4);
        x.say(1, 2);
        CHECK.refused("who falls", x, x.moveOf(1, 0, 1), 8);
        x.drop(1, 9);
        CHECK.refused("on green", x, x.moveOf(1, 0, 1), 8);
    }

    private static void gamesAreLookedAt() {
        TalkChutes x = Check.withTable(Check.TABLE);
        CHECK.refused("no talker", x, x.game(3, 0, 9), 2);
        CHECK.refused("no talker", x, x.game(0, -1, 9), 2);
        CHECK.refused("himself", x, x.game(1, 1, 1), 5);
        CHECK.refused("-1 turns", x, x.game(0, 1, -1), 5);
        CHECK.refused("5 turns", x, x.game(0, 1, 5), 5);
        CHECK.refused("no talker", x, x.moveOf(-1, 0, 0), 2);
        CHECK.refused("no talker", x, x.moveOf(0, 3, 0), 2);
        CHECK.refused("himself", x, x.moveOf(1, 1, 1), 5);
        CHECK.refused("0 turns", x, x.moveOf(0, 1, 0), 5);
        CHECK.refused("5 turns", x, x.moveOf(0, 1, 5), 5);
    }

    private static void chutesHold() {
        TalkChutes x = Check.withTable(Check.TABLE);
        CHECK.fraction("0", x, x.chutes(0), 1, 1);
        CHECK.fraction("1", x, x.chutes(1), 1, 1);
        CHECK.fraction("2", x, x.chutes(2), 3, 4);
        CHECK.fraction("3", x, x.chutes(3), 0, 1);
        CHECK.fraction("6", x, x.chutes(6), 0, 1);
        CHECK.refused("7", x, x.chutes(7), 5);
        CHECK.refused("-1", x, x.chutes(-1), 5);
        StringBuilder text = new StringBuilder("topic t worth 1 drift 1;");
        for (int i = 0; i < 6; i++) {
            text.append("talker ").append((char) ('a' + i)).append(" seat ").append(i).append(" on t fails 1;");
        }
        TalkChutes y = Check.withTable(text.toString());
        CHECK.fraction("all of six", y, y.chutes(6), 11390625, 16777216);
        CHECK.fraction("one of six", y, y.chutes(1), 16777215, 16777216);
        CHECK.fraction("five of six", y, y.chutes(5), 11390625 + 6 * 759375, 16777216);
        TalkChutes z = new TalkChutes();
        CHECK.fraction("nobody, 0", z, z.chutes(0), 1, 1);
        CHECK.fraction("nobody, 1", z, z.chutes(1), 0, 1);
    }
}
