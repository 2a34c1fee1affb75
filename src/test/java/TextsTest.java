/** Promises 9 to 18: feed, table, evenings, fault, many, topic, claim, talker, feud, copyHeights. */
final class TextsTest {
    private static final Check CHECK = new Check();
    private static final String TOPIC = "topic a worth 1 drift 1;";

    public static void main(String[] args) {
        bytesAreFed();
        tableTakesTheTape();
        tokensAreSeen();
        tableFaultsOfForm();
        tableFaultsOfNames();
        tableFaultsOfNumbers();
        tableFaultsOfTwice();
        tableFaultsOfTooMany();
        eveningsTakeTheTape();
        eveningsFaults();
        faultIsOfTheLatest();
        thingsAreTold();
        heightsAreCopied();
        CHECK.end("TextsTest");
    }

    private static void bytesAreFed() {
        TalkChutes x = new TalkChutes();
        for (int i = 1; i <= 45; i++) {
            CHECK.due("feed", x.feed(0, 0, 0, 0, 0), 20 * i);
        }
        CHECK.due("feed above 900", x.feed(0, 0, 0, 0, 0), -1);
        CHECK.due("feed above 900 again", x.feed(0, 0, 0, 0, 0), -1);
        CHECK.refused("table(901)", x, x.table(901), 5);
        CHECK.refused("table(900)", x, x.table(900), 10);
        CHECK.due("empty then", x.feed(0, 0, 0, 0, 0), 20);
        TalkChutes y = new TalkChutes();
        y.feed(0x6f646473, 0x20393b21, 0, 0, 0);
        CHECK.given("the highest byte first", y, y.table(7), 0);
        CHECK.given("odds 9;", y, y.many(4), 9);
    }

    private static void tableTakesTheTape() {
        TalkChutes x = new TalkChutes();
        Check.feed(x, TOPIC);
        CHECK.refused("n -1", x, x.table(-1), 5);
        CHECK.refused("n 41", x, x.table(41), 5);
        CHECK.due("no fault told yet", x.fault(0), -1);
        CHECK.given("the first bytes", x, x.table(TOPIC.length()), 0);
        CHECK.given("one topic", x, x.many(0), 1);
        CHECK.refused("the tape is empty", x, x.table(1), 5);
        CHECK.refused("bad", x, Check.table(x, "topic !"), 10);
        CHECK.given("the old one stays", x, x.many(0), 1);
        CHECK.refused("the tape is empty behind a fault", x, x.table(1), 5);
        CHECK.given("another one", x, Check.table(x, Check.TABLE), 3);
        x.rule(3);
        x.say(0, 1);
        x.say(0, 2);
        x.think(0, 1);
        Check.evenings(x, "any;");
        CHECK.given("taken anew", x, Check.table(x, Check.TABLE), 3);
        CHECK.given("nobody falls", x, x.many(8), 0);
        CHECK.given("nothing was said", x, x.many(5), 0);
        CHECK.given("odds", x, x.many(4), 8);
        CHECK.given("claims", x, x.many(1), 5);
        CHECK.refused("no evenings", x, x.live(0), 8);
        CHECK.given("of nothing", x, x.table(0), 0);
        CHECK.given("odds without", x, x.many(4), 4);
        CHECK.given("no topics", x, x.many(0), 0);
    }

    private static void tokensAreSeen() {
        TalkChutes x = new TalkChutes();
        String text = " \n topic\nabcdefgh worth0020drift 0003;;";
        CHECK.refused("a second ;", x, Check.table(x, text), 10);
        CHECK.fault(text, x, 2, text.length() - 1);
        CHECK.given("without", x, Check.table(x, text.substring(0, text.length() - 1)), 0);
        CHECK.given("worth", x, x.topic(0, 0), 20);
        CHECK.given("drift", x, x.topic(0, 1), 3);
        CHECK.given("blanks alone", x, Check.table(x, " \n "), 0);
        CHECK.tableFault("\t", 1, 0);
        CHECK.tableFault("odds\r3;", 1, 4);
        CHECK.tableFault("odds 3;\u00e9", 1, 7);
        CHECK.tableFault("Odds 3;", 1, 0);
        CHECK.tableFault("odds 00003;", 1, 5);
        CHECK.tableFault("12345", 1, 0);
        CHECK.tableFault("1234", 2, 0);
        CHECK.tableFault("odds -1;", 1, 5);
    }

    private static void tableFaultsOfForm() {
        CHECK.tableFault("odds", 2, 4);
        CHECK.tableFault("odds ", 2, 5);
        CHECK.tableFault("odds 3", 2, 6);
        CHECK.tableFault("odds ;", 2, 5);
        CHECK.tableFault("odds a;", 2, 5);
        CHECK.tableFault("worth 3;", 2, 0);
        CHECK.tableFault("say a b;", 2, 0);
        CHECK.tableFault(";", 2, 0);
        CHECK.tableFault("abc;", 2, 0);
        CHECK.tableFault("topic 1 worth 1 drift 1;", 2, 6);
        CHECK.tableFault("topic abcdefghi worth 1 drift 1;", 2, 6);
        String words = "odds topic worth drift claim at propped needs talker seat on fails feud "
            + "say drop pull prop cut any when stands falls high loop end stop";
        for (String word : words.split(" ")) {
            CHECK.tableFault("topic " + word + " worth 1 drift 1;", 2, 6);
            CHECK.tableFault(TOPIC + "claim c at " + word + ";", 2, 35);
        }
        CHECK.tableFault("topic a drift 1 worth 1;", 2, 8);
        CHECK.tableFault("topic a worth 1;", 2, 15);
        CHECK.tableFault("topic a worth 1 drift 1 worth 2;", 2, 24);
        CHECK.tableFault("topic a worth 1 drift < 1;", 2, 22);
        CHECK.tableFault(TOPIC + "claim c on a;", 2, 32);
        CHECK.tableFault(TOPIC + "claim c at abcdefghi;", 2, 35);
        CHECK.tableFault(TOPIC + "claim c at a needs propped;", 2, 43);
        CHECK.tableFault(TOPIC + "claim c at a needs abcdefghi;", 2, 43);
        CHECK.tableFault(TOPIC + "claim c at a propped propped;", 2, 45);
        CHECK.tableFault(TOPIC + "claim c at a c;", 2, 37);
        CHECK.tableFault(TOPIC + "claim c at a needs", 2, 42);
        CHECK.tableFault(TOPIC + "talker c on a seat 1;", 2, 33);
        CHECK.tableFault(TOPIC + "talker c seat 1 on a 3;", 2, 45);
        CHECK.tableFault(TOPIC + "talker c seat 1;", 2, 39);
        CHECK.tableFault(TOPIC + "talker c seat 1 on;", 2, 42);
        CHECK.tableFault(TOPIC + "claim c;", 2, 31);
        CHECK.tableFault(TOPIC + "claim c at;", 2, 34);
        CHECK.tableFault(TOPIC + "talker c;", 2, 32);
        CHECK.tableFault(TOPIC + "talker c seat 1 on a fails;", 2, 50);
        CHECK.tableFault(TOPIC + "talker c seat 1 on a;feud c;", 2, 51);
        TalkChutes x = Check.withTable(TOPIC + "claim b at a needs;claim c at a propped needs b;");
        CHECK.given("needs nothing", x, x.claim(0, 1), 0);
        CHECK.given("needs nothing, hollow", x, x.claim(0, 3), 0);
        CHECK.given("needs b", x, x.claim(1, 1), 1);
    }

    private static void tableFaultsOfNames() {
        CHECK.tableFault(TOPIC + "topic a worth 1 drift 1;", 3, 30);
        CHECK.tableFault(TOPIC + "claim a at a;", 3, 30);
        CHECK.tableFault(TOPIC + "claim c at b;", 3, 35);
        CHECK.tableFault(TOPIC + "claim c at c;", 3, 35);
        CHECK.tableFault(TOPIC + "claim c at a needs c;", 3, 43);
        CHECK.tableFault(TOPIC + "claim c at a needs a;", 3, 43);
        CHECK.tableFault(TOPIC + "claim c at a;claim c at a;", 3, 43);
        CHECK.tableFault(TOPIC + "claim c at a;claim d at c;", 3, 48);
        CHECK.tableFault(TOPIC + "talker a seat 1 on a;", 3, 31);
        CHECK.tableFault(TOPIC + "talker c seat 1 on c;", 3, 43);
        CHECK.tableFault(TOPIC + "talker c seat 1 on a;talker c seat 2 on a;", 3, 52);
        CHECK.tableFault(TOPIC + "talker c seat 1 on a;claim c at a;", 3, 51);
        CHECK.tableFault(TOPIC + "talker c seat 1 on a;feud a c;", 3, 50);
        CHECK.tableFault(TOPIC + "talker c seat 1 on a;feud c d;", 3, 52);
        CHECK.tableFault("claim c at a;" + TOPIC, 3, 11);
        String alike = "topic ab worth 1 drift 1;topic ba worth 2 drift 1;topic aba worth 3 drift 1;topic aab worth 4 drift 1;"
            + "topic b worth 5 drift 1;topic abcdefgh worth 6 drift 1;topic abcdefgi worth 7 drift 1;topic zbcdefgh worth 8 drift 1;";
        String[] names = {"ab", "ba", "aba", "aab", "b", "abcdefgh", "abcdefgi", "zbcdefgh"};
        for (int i = 0; i < names.length; i++) {
            TalkChutes x = Check.withTable(alike + "claim c at " + names[i] + ";");
            CHECK.given("names that are alike", x, x.claim(0, 0), i);
        }
    }

    private static void tableFaultsOfNumbers() {
        CHECK.tableFault("odds 17;", 4, 5);
        CHECK.tableFault("topic a worth 21 drift 1;", 4, 14);
        CHECK.tableFault("topic a worth 1 drift 4;", 4, 22);
        CHECK.tableFault(TOPIC + "talker c seat 10 on a;", 4, 38);
        CHECK.tableFault(TOPIC + "talker c seat 1 on a fails 17;", 4, 51);
        CHECK.tableFault("odds 9999;", 4, 5);
        TalkChutes x = Check.withTable("odds 16;topic a worth 20 drift 3;talker c seat 9 on a fails 16;"
            + "talker d seat 0 on a fails 0;");
        CHECK.given("odds", x, x.many(4), 16);
        CHECK.given("worth", x, x.topic(0, 0), 20);
        CHECK.given("drift", x, x.topic(0, 1), 3);
        CHECK.given("seat", x, x.talker(0, 0), 9);
        CHECK.given("fails", x, x.talker(0, 3), 16);
        CHECK.given("odds 0", x, Check.table(x, "odds 0;"), 0);
        CHECK.given("odds 0 told", x, x.many(4), 0);
    }

    private static void tableFaultsOfTwice() {
        CHECK.tableFault("odds 1;odds 1;", 5, 7);
        CHECK.tableFault("odds 4;odds !", 5, 7);
        CHECK.tableFault(TOPIC + "claim b at a;claim c at a needs b b;", 5, 58);
        CHECK.tableFault(TOPIC + "talker b seat 1 on a;talker c seat 1 on a;", 5, 59);
        String two = TOPIC + "talker b seat 1 on a;talker c seat 2 on a;";
        CHECK.tableFault(two + "feud b b;", 5, 73);
        CHECK.tableFault(two + "feud b c;feud b c;", 5, 82);
        CHECK.tableFault(two + "feud b c;feud c b;", 5, 82);
        CHECK.tableFault(two + "feud c b;feud c c;", 5, 82);
    }

    private static void tableFaultsOfTooMany() {
        StringBuilder topics = new StringBuilder();
        for (int i = 0; i < 9; i++) {
            topics.append("topic ").append((char) ('a' + i)).append(" worth 1 drift 1;");
        }
        TalkChutes x = Check.withTable(topics.toString());
        CHECK.given("nine topics", x, x.many(0), 9);
        CHECK.tableFault(topics + "topic !", 6, topics.length());
        StringBuilder claims = new StringBuilder(TOPIC);
        for (int i = 0; i < 8; i++) {
            claims.append("claim c").append((char) ('a' + i)).append(" at a;");
        }
        CHECK.given("eight claims", x, Check.table(x, claims.toString()), 0);
        CHECK.given("eight claims", x, x.many(1), 8);
        CHECK.tableFault(claims + "claim ;", 6, claims.length());
        StringBuilder talkers = new StringBuilder(TOPIC);
        for (int i = 0; i < 6; i++) {
            talkers.append("talker t").append((char) ('a' + i)).append(" seat ").append(i).append(" on a;");
        }
        CHECK.given("six talkers", x, Check.table(x, talkers.toString()), 6);
        CHECK.tableFault(talkers + " talker", 6, talkers.length() + 1);
        int feuds = 0;
        for (int i = 0; i < 6 && feuds < 10; i++) {
            for (int j = 0; j < i && feuds < 10; j++, feuds++) {
                talkers.append("feud t").append((char) ('a' + i)).append(" t").append((char) ('a' + j)).append(';');
            }
        }
        CHECK.given("ten feuds", x, Check.table(x, talkers.toString()), 6);
        CHECK.given("ten feuds", x, x.many(3), 10);
        CHECK.tableFault(talkers + "feud tf tf;", 6, talkers.length());
    }

    private static void eveningsTakeTheTape() {
        TalkChutes x = Check.withTable(Check.TABLE);
        Check.feed(x, "stop;");
        CHECK.refused("n -1", x, x.evenings(-1), 5);
        CHECK.refused("n 21", x, x.evenings(21), 5);
        CHECK.given("the tape stays for 5", x, x.evenings(5), 1);
        CHECK.refused("empty then", x, x.evenings(1), 5);
        for (int i = 0; i < 16; i++) {
            x.feed(0x20202020, 0x20202020, 0x20202020, 0x20202020, 0x20202020);
        }
        CHECK.refused("n 301", x, x.evenings(301), 5);
        CHECK.given("n 300", x, x.evenings(300), 0);
        CHECK.given("an evening of nothing is lived", x, x.live(0), 0);
        CHECK.given("two", x, Check.evenings(x, "any;any;"), 2);
        CHECK.refused("bad", x, Check.evenings(x, "any;any;any;!"), 10);
        CHECK.refused("the tape is empty behind a fault", x, x.evenings(1), 5);
        CHECK.given("the old ones stay", x, x.live(0), 2);
    }

    private static void eveningsFaults() {
        CHECK.eveningsFault("!", 1, 0);
        CHECK.eveningsFault("loop 10000;", 1, 5);
        CHECK.eveningsFault("odds 3;", 2, 0);
        CHECK.eveningsFault("stands rain;", 2, 0);
        CHECK.eveningsFault(";", 2, 0);
        CHECK.eveningsFault("gus;", 2, 0);
        CHECK.eveningsFault("end;", 2, 0);
        CHECK.eveningsFault("loop 1;end;end;", 2, 11);
        CHECK.eveningsFault("loop 1; ", 2, 8);
        CHECK.eveningsFault("loop 1;end", 2, 10);
        CHECK.eveningsFault("when falls gus;loop 3;end;", 2, 26);
        CHECK.eveningsFault("when falls gus end;", 2, 15);
        CHECK.eveningsFault("say gus 1;", 2, 8);
        CHECK.eveningsFault("say gus abcdefghi;", 2, 8);
        CHECK.eveningsFault("say gus when;", 2, 8);
        CHECK.eveningsFault("drop gus;", 2, 8);
        CHECK.eveningsFault("drop gus rain;", 2, 9);
        CHECK.eveningsFault("when rain;", 2, 5);
        CHECK.eveningsFault("when high gus ; 1;", 2, 14);
        CHECK.eveningsFault("when high gus = rain;", 2, 16);
        CHECK.eveningsFault("stop stop;", 2, 5);
        CHECK.eveningsFault("say drains rain;", 3, 4);
        CHECK.eveningsFault("say gus drains;", 3, 8);
        CHECK.eveningsFault("drop rain 1;", 3, 5);
        CHECK.eveningsFault("pull nobody;", 3, 5);
        CHECK.eveningsFault("prop gus;", 3, 5);
        CHECK.eveningsFault("cut music;", 3, 4);
        CHECK.eveningsFault("when stands gus;", 3, 12);
        CHECK.eveningsFault("when falls rain;", 3, 11);
        CHECK.eveningsFault("when high rain > 3;", 3, 10);
        CHECK.eveningsFault("drop gus 0;", 4, 9);
        CHECK.eveningsFault("drop gus 10;", 4, 9);
        CHECK.eveningsFault("when high gus < 10;", 4, 16);
        CHECK.eveningsFault("loop 0;", 4, 5);
        CHECK.eveningsFault("loop 100;", 4, 5);
        String three = "loop 1;when falls gus;loop 99;";
        CHECK.eveningsFault(three + "loop 1;", 7, 30);
        CHECK.eveningsFault(three + "when !", 7, 30);
        CHECK.eveningsFault(three + "end;end;loop 2;loop 2;loop 2;", 7, 52);
        String thirty = "stop;".repeat(27) + three;
        CHECK.eveningsFault(thirty + "loop 1;", 6, thirty.length());
        CHECK.eveningsFault(thirty + "end;end;end;any", 6, thirty.length() + 12);
        CHECK.eveningsFault(thirty + "rain", 2, thirty.length());
        TalkChutes x = Check.withTable(Check.TABLE);
        CHECK.given("thirty", x, Check.evenings(x, thirty + "end;end;end;"), 30);
        CHECK.given("all compares", x, Check.evenings(x, "when high gus<0;end;when high gus=9;end;when high gus>0;end;"), 3);
    }

    private static void faultIsOfTheLatest() {
        TalkChutes x = new TalkChutes();
        x.table(1);
        CHECK.fault("ahead of any", x, -1, -1);
        x.table(0);
        CHECK.fault("without one", x, 0, -1);
        Check.evenings(x, "any; !");
        CHECK.fault("with one", x, 1, 5);
        x.evenings(1);
        x.table(-1);
        CHECK.fault("but for 5", x, 1, 5);
        CHECK.due("fault(2)", x.fault(2), -1);
        CHECK.due("fault(-1)", x.fault(-1), -1);
        x.evenings(0);
        CHECK.fault("none again", x, 0, -1);
    }

    private static void thingsAreTold() {
        TalkChutes x = Check.withTable(Check.TABLE);
        int[] many = {4, 5, 3, 2, 8, 0, 19, 17, 0, 0};
        for (int what = 0; what < many.length; what++) {
            CHECK.given("many " + what, x, x.many(what), many[what]);
        }
        CHECK.refused("many -1", x, x.many(-1), 5);
        CHECK.refused("many 10", x, x.many(10), 5);
        int[][] topics = {{3, 1, 1, 1}, {7, 0, 2, 2}, {12, 2, 20, 0}, {20, 3, 8, 4}};
        int[][] claims = {{0, 0, 1, 1}, {1, 1, 0, 1}, {2, 0, 0, 0}, {3, 6, 0, 0}, {2, 4, 1, 1}};
        int[][] talkers = {{0, 1, 0, 0, 3}, {3, 2, 0, 4, 23}, {5, 4, 0, 16, 28}};
        int[][] feuds = {{0, 1}, {1, 2}};
        for (int i = 0; i < topics.length; i++) {
            for (int what = 0; what < 4; what++) {
                CHECK.given("topic " + i + " " + what, x, x.topic(i, what), topics[i][what]);
            }
        }
        for (int i = 0; i < claims.length; i++) {
            for (int what = 0; what < 4; what++) {
                CHECK.given("claim " + i + " " + what, x, x.claim(i, what), claims[i][what]);
            }
        }
        for (int i = 0; i < talkers.length; i++) {
            for (int what = 0; what < 5; what++) {
                CHECK.given("talker " + i + " " + what, x, x.talker(i, what), talkers[i][what]);
            }
        }
        for (int i = 0; i < feuds.length; i++) {
            for (int what = 0; what < 2; what++) {
                CHECK.given("feud " + i + " " + what, x, x.feud(i, what), feuds[i][what]);
            }
        }
        wrongThingsAreAsked(x);
        x.say(1, 2);
        CHECK.given("who falls can say nothing", x, x.talker(1, 4), 0);
        CHECK.given("who falls is at a height", x, x.topic(2, 3), 2);
        x.pull(1, false);
        CHECK.given("on green", x, x.many(9), 2);
        CHECK.given("on green can say nothing", x, x.talker(1, 4), 0);
        TalkChutes y = Check.withTable(TOPIC + "talker b seat 1 on a;talker c seat 2 on a;feud c b;");
        CHECK.given("as they were told", y, y.feud(0, 0), 1);
        CHECK.given("as they were told", y, y.feud(0, 1), 0);
    }

    private static void wrongThingsAreAsked(TalkChutes x) {
        int[] wrong = {-1, 9, Integer.MIN_VALUE, Integer.MAX_VALUE};
        for (int w : wrong) {
            CHECK.refused("topic", x, x.topic(w, 9), 2);
            CHECK.refused("claim", x, x.claim(w, 9), 2);
            CHECK.refused("talker", x, x.talker(w, 9), 2);
            CHECK.refused("feud", x, x.feud(w, 9), 2);
            CHECK.refused("topic what", x, x.topic(0, w), 5);
            CHECK.refused("claim what", x, x.claim(0, w), 5);
            CHECK.refused("talker what", x, x.talker(0, w), 5);
            CHECK.refused("feud what", x, x.feud(0, w), 5);
        }
        CHECK.refused("topic 4", x, x.topic(4, 0), 2);
        CHECK.refused("claim 5", x, x.claim(5, 0), 2);
        CHECK.refused("talker 3", x, x.talker(3, 0), 2);
        CHECK.refused("feud 2", x, x.feud(2, 0), 2);
        CHECK.refused("topic what 4", x, x.topic(3, 4), 5);
        CHECK.refused("claim what 4", x, x.claim(4, 4), 5);
        CHECK.refused("talker what 5", x, x.talker(2, 5), 5);
        CHECK.refused("feud what 2", x, x.feud(1, 2), 5);
    }

    private static void heightsAreCopied() {
        TalkChutes x = Check.withTable(Check.TABLE);
        CHECK.refused("tray -1", x, x.copyHeights(-1), 1);
        CHECK.refused("tray 4", x, x.copyHeights(4), 1);
        CHECK.refused("missing", x, x.copyHeights(0), 3);
        x.tray(0, 0, 2);
        x.write(0, 0, 77);
        CHECK.refused("too short", x, x.copyHeights(0), 4);
        CHECK.given("nothing was changed", x, x.read(0, 0), 77);
        x.tray(1, 3, 4);
        x.write(1, 3, 77);
        CHECK.given("copied", x, x.copyHeights(1), 3);
        int[] due = {1, 2, 4, 77};
        for (int i = 0; i < due.length; i++) {
            CHECK.given("height", x, x.read(1, i), due[i]);
        }
    }
}
