import java.util.List;

/** The boundary cases that promises 9 to 12 name: feed, table, evenings, fault, and the FAULTS of a text. */
final class BoundsTextsTest {
    private static final Check CHECK = new Check();
    private static final String T = "topic a worth 1 drift 1;";
    private static final String TWO = T + "talker p seat 1 on a;talker q seat 2 on a;";
    private static final String[] WORDS = ("odds topic worth drift claim at propped needs talker seat on fails feud "
        + "say drop pull prop cut any when stands falls high loop end stop").split(" ");

    public static void main(String[] args) {
        feed();
        feedIsFull();
        tableOfSoManyBytes();
        tableOfAllBytes();
        tableInPlaceOfTheOldOne();
        nothingElseIsChangedByAFault();
        tokens();
        numbersOfDigits();
        names();
        numbersOfTheTable();
        partsThatMayBeLeftOut();
        fullTable();
        fault1();
        fault2();
        fault3();
        fault4();
        fault5();
        fault6();
        theFirstFault();
        eveningsOfSoManyBytes();
        eveningsInPlaceOfTheOldOnes();
        numbersOfEvenings();
        thirtySteps();
        threeDeep();
        eveningsFaults1And2();
        eveningsFault3();
        eveningsFault4();
        eveningsFaults6And7();
        fault();
        CHECK.end("BoundsTextsTest");
    }

    private static void feed() {
        CHECK.promise(9, "twenty bytes, the highest of each int first");
        TalkChutes x = new TalkChutes();
        CHECK.due("feed", x.feed(0x6f646473, 0x2031363b, 0x746f7069, 0x63206120, 0x776f7274), 20);
        CHECK.due("feed: behind those on the tape", x.feed(0x68203230, 0x20647269, 0x66742033, 0x3b202020, 0x0a0a0a21), 40);
        CHECK.given("the bytes in their order", x, x.table(39), 0);
        CHECK.given("odds 16;", x, x.many(4), 16);
        CHECK.given("topic a worth 20 drift 3;", x, x.topic(0, 0), 20);
        CHECK.given("topic a worth 20 drift 3;", x, x.topic(0, 1), 3);
        CHECK.promise(9, "bytes of 128 and more are bytes too");
        TalkChutes y = new TalkChutes();
        y.feed(-1, -1, -1, -1, -1);
        CHECK.refused("255", y, y.table(1), 10);
        CHECK.fault("255", y, 1, 0);
        y.feed(0x20202080, 0, 0, 0, 0);
        y.table(4);
        CHECK.fault("128", y, 1, 3);
    }

    private static void feedIsFull() {
        CHECK.promise(9, "NONE if there would be more than 900");
        TalkChutes x = new TalkChutes();
        for (int i = 1; i <= 45; i++) {
            CHECK.due("feed " + i, x.feed(0x20202020, 0x20202020, 0x20202020, 0x20202020, 0x20202020), 20 * i);
        }
        for (int i = 0; i < 3; i++) {
            CHECK.due("feed 46", x.feed(0x21212121, 0x21212121, 0x21212121, 0x21212121, 0x21212121), -1);
        }
        CHECK.due("feed has no STATUS", x.status(), 0);
        CHECK.given("what was there stays", x, x.table(900), 0);
        CHECK.due("empty then", x.feed(0, 0, 0, 0, 0), 20);
    }

    private static void tableOfSoManyBytes() {
        CHECK.promise(10, "5: n below 0, above what the tape has; the tape stays");
        int[] wrong = {-1, 21, 901, Integer.MIN_VALUE, Integer.MAX_VALUE};
        for (int n : wrong) {
            CHECK.changesNothing("table(" + n + ")", Check::rich, x -> x.table(n), 5);
        }
        CHECK.promise(10, "the first n bytes");
        TalkChutes x = new TalkChutes();
        Check.feed(x, "odds 3;odds 4;");
        CHECK.given("table(7)", x, x.table(7), 0);
        CHECK.given("odds", x, x.many(4), 3);
        CHECK.promise(10, "which is empty then");
        CHECK.refused("table(1)", x, x.table(1), 5);
        CHECK.due("feed", x.feed(0, 0, 0, 0, 0), 20);
        CHECK.refused("10 empties it, too", x, x.table(1), 10);
        CHECK.refused("table(1)", x, x.table(1), 5);
        CHECK.due("feed", x.feed(0, 0, 0, 0, 0), 20);
        CHECK.promise(10, "n 0 is a TABLE of nothing");
        Check.feed(x, "odds 9;");
        CHECK.given("table(0)", x, x.table(0), 0);
        CHECK.given("ODDS 4", x, x.many(4), 4);
        CHECK.refused("the tape is empty then", x, x.table(1), 5);
        CHECK.promise(10, "a text that n cuts off");
        Check.feed(x, "odds 16;");
        CHECK.refused("odds 16", x, x.table(7), 10);
        CHECK.fault("odds 16", x, 2, 7);
    }

    private static void tableOfAllBytes() {
        CHECK.promise(10, "a TEXT of at most 900 bytes");
        String part = "odds 16;";
        TalkChutes x = CHECK.tableTaken(" ".repeat(900 - part.length()) + part);
        CHECK.given("a part that ends with the 900th byte", x, x.many(4), 16);
        x = CHECK.tableTaken(part + "\n".repeat(900 - part.length()));
        CHECK.given("blanks behind", x, x.many(4), 16);
        CHECK.tableFaultAt(1, " ".repeat(899) + "^!");
        CHECK.tableFaultAt(2, " ".repeat(899) + "^;");
        CHECK.tableFaultAt(2, " ".repeat(893) + "odds 16^");
        CHECK.tableFaultAt(2, "^" + "a".repeat(900));
        CHECK.tableFaultAt(1, "^" + "1".repeat(900));
    }

    private static void tableInPlaceOfTheOldOne() {
        CHECK.promise(10, "10: the old one stays");
        String[] bad = {"topic", "topic a", "topic a worth 1 drift 1;claim b at a propped;!", "odds 1;odds 1;", Check.FULL + "feud ta tb;"};
        for (String text : bad) {
            TalkChutes x = Check.withEvenings(Check.TABLE, "any;any;");
            x.say(1, 2);
            CHECK.refused(text, x, Check.table(x, text), 10);
            int[] many = {4, 5, 3, 2, 8, 1, 19, 17, 2, 0};
            for (int what = 0; what < many.length; what++) {
                CHECK.given("many(" + what + ")", x, x.many(what), many[what]);
            }
            CHECK.given("the topic's worth", x, x.topic(0, 0), 3);
            CHECK.given("names stay", x, Check.evenings(x, "say gus rain;"), 1);
        }
        CHECK.promise(10, "there in place of that ahead; nobody FALLS, nothing was SAID; there are no EVENINGS");
        TalkChutes y = Check.rich();
        y.table(0);
        CHECK.given("nobody falls", y, y.many(8), 0);
        CHECK.given("nothing was said", y, y.many(5), 0);
        CHECK.given("nothing is propped", y, y.many(7), 0);
        CHECK.refused("no evenings", y, y.live(0), 8);
        CHECK.refused("names are gone", y, Check.evenings(y, "say gus rain;"), 10);
        CHECK.fault("say gus rain;", y, 3, 4);
        CHECK.promise(10, "nobody FALLS, nothing was SAID, behind a mean() by which they did, too");
        TalkChutes z = Check.withEvenings(Check.TABLE, "say may bill;");
        z.mean(0, 1);
        CHECK.given("table", z, Check.table(z, Check.TABLE), 3);
        CHECK.given("nobody falls", z, z.many(8), 0);
        CHECK.given("nothing was said", z, z.many(5), 0);
        CHECK.promise(10, "how many TALKERS: none, six");
        CHECK.given("none", y, Check.table(y, T), 0);
        CHECK.given("six", y, Check.table(y, Check.FULL), 6);
    }

    private static void nothingElseIsChangedByAFault() {
        // The same FAULT behind both makes alike what may differ: the tape, and what fault() tells.
        TalkChutes untouched = Check.rich();
        TalkChutes byTable = Check.rich();
        TalkChutes byEvenings = Check.rich();
        CHECK.promise(10, "with 10 nothing but the tape, and what fault() tells");
        CHECK.refused("table(20)", byTable, byTable.table(20), 10);
        CHECK.fault("odds 3;topic a worth", byTable, 2, 20);
        CHECK.promise(11, "with 10 nothing but the tape, and what fault() tells");
        CHECK.refused("evenings(20)", byEvenings, byEvenings.evenings(20), 10);
        CHECK.fault("odds 3;topic a worth", byEvenings, 2, 0);
        List<Long> before = Whole.stays(untouched);
        TalkChutes[] both = {byTable, byEvenings};
        for (TalkChutes x : both) {
            List<Long> left = Whole.stays(x);
            CHECK.due("the FRACTION stays", left.subList(0, 2).equals(before.subList(0, 2)), true);
            CHECK.due("all behind fault() stays", left.subList(4, left.size()).equals(before.subList(4, before.size())), true);
        }
        byTable.feed(0x21000000, 0, 0, 0, 0);
        byEvenings.feed(0x21000000, 0, 0, 0, 0);
        CHECK.due("alike then", byTable.table(1) == byEvenings.table(1), true);
        CHECK.due("EVENINGS, MARKS are alike", Whole.told(byTable).equals(Whole.told(byEvenings)), true);
    }

    private static void tokens() {
        CHECK.promise(10, "TOKENS, as long as they go, between them blanks (10, 32)");
        TalkChutes x = CHECK.tableTaken("\n odds\n16 ;topic\n\n a worth20drift3;claim b at a needs;talker c seat9on a fails16;");
        CHECK.given("odds", x, x.many(4), 16);
        CHECK.given("worth20drift3", x, x.topic(0, 0), 20);
        CHECK.given("seat9on", x, x.talker(0, 0), 9);
        CHECK.given("fails16", x, x.talker(0, 3), 16);
        CHECK.tableTaken("");
        CHECK.tableTaken(" \n");
        CHECK.tableFaultAt(2, "^oddss 3;");
        CHECK.tableFaultAt(2, "^od ds 3;");
        CHECK.tableFaultAt(2, "topic a ^worthx 1 drift 1;");
        CHECK.tableFaultAt(2, "odds 1 ^6;");
        CHECK.tableFaultAt(2, T + "talker p seat 1 ^ona;");
        int[] noBlanks = {0, 9, 11, 12, 13, 31, 127, 160};
        for (int sign : noBlanks) {
            CHECK.tableFaultAt(1, "odds^" + (char) sign + "3;");
        }
    }

    private static void numbersOfDigits() {
        CHECK.promise(10, "NUMBERS (1 to 4 digits)");
        TalkChutes x = CHECK.tableTaken("odds 0016;");
        CHECK.given("odds 0016;", x, x.many(4), 16);
        x = CHECK.tableTaken("odds 0000;");
        CHECK.given("odds 0000;", x, x.many(4), 0);
        CHECK.promise(10, "FAULT 1: a NUMBER of 5 digits and more: at its first");
        CHECK.tableFaultAt(1, "odds ^00016;");
        CHECK.tableFaultAt(1, "odds ^12345;");
        CHECK.tableFaultAt(1, "odds ^4294967296;");
        CHECK.tableFaultAt(1, "odds ^42949672960000000003;");
        CHECK.tableFaultAt(1, "^00000");
        CHECK.tableFaultAt(1, "topic a^00001");
        CHECK.promise(10, "FAULT 4: four digits can be read, but can't be");
        CHECK.tableFaultAt(4, "odds ^9999;");
    }

    private static void names() {
        CHECK.promise(10, "NAME: a WORD of 1 to 8 letters");
        CHECK.tableTaken("topic a worth 1 drift 1;");
        CHECK.tableTaken("topic z worth 1 drift 1;");
        CHECK.tableTaken("topic abcdefgh worth 1 drift 1;claim zzzzzzzz at abcdefgh;talker aaaaaaaa seat 0 on abcdefgh;");
        CHECK.promise(10, "FAULT 2: a WORD of 9 letters and more where a NAME must stand");
        String[] long9 = {"abcdefghi", "aaaaaaaaa", "abcdefghabcdefgh", "z".repeat(70)};
        for (String word : long9) {
            CHECK.tableFaultAt(2, "topic ^" + word + " worth 1 drift 1;");
            CHECK.tableFaultAt(2, T + "claim ^" + word + " at a;");
            CHECK.tableFaultAt(2, T + "claim b at ^" + word + ";");
            CHECK.tableFaultAt(2, T + "claim b at a needs ^" + word + ";");
            CHECK.tableFaultAt(2, T + "talker ^" + word + " seat 1 on a;");
            CHECK.tableFaultAt(2, T + "talker b seat 1 on ^" + word + ";");
            CHECK.tableFaultAt(2, TWO + "feud ^" + word + " p;");
            CHECK.tableFaultAt(2, TWO + "feud p ^" + word + ";");
        }
        CHECK.promise(10, "FAULT 2: a WORD that is no NAME where one must stand");
        for (String word : WORDS) {
            CHECK.tableFaultAt(2, "topic ^" + word + " worth 1 drift 1;");
            CHECK.tableFaultAt(2, T + "claim ^" + word + " at a;");
            CHECK.tableFaultAt(2, T + "talker ^" + word + " seat 1 on a;");
            CHECK.tableFaultAt(2, TWO + "feud ^" + word + " p;");
            CHECK.tableFaultAt(2, TWO + "feud p ^" + word + ";");
        }
        CHECK.promise(10, "what is a letter more, or less, than such a WORD is a NAME");
        for (String word : WORDS) {
            if (word.length() < 8) {
                CHECK.tableTaken("topic " + word + "x worth 1 drift 1;claim x" + word + " at " + word + "x;");
            }
            CHECK.tableTaken("topic " + word.substring(1) + "q worth 1 drift 1;");
        }
        CHECK.tableTaken("topic odd worth 1 drift 1;topic opic worth 1 drift 1;topic wort worth 1 drift 1;topic o worth 1 drift 1;");
        CHECK.tableTaken("topic need worth 1 drift 1;topic fail worth 1 drift 1;topic fall worth 1 drift 1;topic stand worth 1 drift 1;");
    }

    private static void numbersOfTheTable() {
        CHECK.promise(10, "ODDS 0 to 16, WORTH 0 to 20, DRIFT 0 to 3, SEAT 0 to 9, FAILS 0 to 16: the least");
        TalkChutes x = CHECK.tableTaken("odds 0;topic a worth 0 drift 0;talker p seat 0 on a fails 0;");
        CHECK.given("odds", x, x.many(4), 0);
        CHECK.given("worth", x, x.topic(0, 0), 0);
        CHECK.given("drift", x, x.topic(0, 1), 0);
        CHECK.given("seat", x, x.talker(0, 0), 0);
        CHECK.given("fails", x, x.talker(0, 3), 0);
        CHECK.promise(10, "ODDS 0 to 16, WORTH 0 to 20, DRIFT 0 to 3, SEAT 0 to 9, FAILS 0 to 16: the most");
        x = CHECK.tableTaken("odds 16;topic a worth 20 drift 3;talker p seat 9 on a fails 16;");
        CHECK.given("odds", x, x.many(4), 16);
        CHECK.given("worth", x, x.topic(0, 0), 20);
        CHECK.given("drift", x, x.topic(0, 1), 3);
        CHECK.given("seat", x, x.talker(0, 0), 9);
        CHECK.given("fails", x, x.talker(0, 3), 16);
    }

    private static void partsThatMayBeLeftOut() {
        CHECK.promise(10, "ODDS: 4 without; FAILS: 0 without");
        TalkChutes x = Check.withTable("odds 9;" + T + "talker p seat 1 on a fails 7;");
        Check.table(x, T + "talker p seat 1 on a;");
        CHECK.given("odds", x, x.many(4), 4);
        CHECK.given("fails", x, x.talker(0, 3), 0);
        CHECK.promise(10, "{ } any number of times: none");
        x = CHECK.tableTaken(T + "claim b at a needs;claim c at a propped needs;");
        CHECK.given("needs nothing", x, x.claim(0, 1), 0);
        CHECK.given("and is not propped", x, x.claim(0, 2), 0);
        CHECK.given("needs nothing, but is propped", x, x.claim(1, 3), 1);
        CHECK.promise(10, "[ ] perhaps");
        x = CHECK.tableTaken(T + "claim b at a;claim c at a propped;claim d at a needs c;claim e at a propped needs d;");
        int[][] due = {{0, 0}, {0, 1}, {2, 0}, {4, 1}};
        for (int i = 0; i < 4; i++) {
            CHECK.given("needs of " + i, x, x.claim(i, 1), due[i][0]);
            CHECK.given("propped " + i, x, x.claim(i, 2), due[i][1]);
        }
        CHECK.promise(10, "odds may stand anywhere, once");
        x = CHECK.tableTaken(T + "odds 7;claim b at a;");
        CHECK.given("odds", x, x.many(4), 7);
    }

    private static void fullTable() {
        CHECK.promise(10, "at most 9 TOPICS, 8 CLAIMS, 6 TALKERS, 10 FEUDS");
        TalkChutes x = CHECK.tableTaken(Check.FULL);
        int[] many = {9, 8, 6, 10, 16};
        for (int what = 0; what < many.length; what++) {
            CHECK.given("many(" + what + ")", x, x.many(what), many[what]);
        }
        CHECK.promise(10, "numbered as they stand");
        CHECK.given("the last topic", x, x.topic(8, 0), 20);
        CHECK.given("the last claim", x, x.claim(7, 0), 7);
        CHECK.given("the last talker", x, x.talker(5, 0), 4);
        CHECK.given("the last feud", x, x.feud(9, 0), 4);
        CHECK.promise(10, "they NEED other CLAIMS told ahead: all seven");
        x = CHECK.tableTaken(T + "claim b at a;claim c at a;claim d at a;claim e at a;claim f at a;claim g at a;claim h at a;"
            + "claim i at a needs h g f e d c b;");
        CHECK.given("all seven", x, x.claim(7, 1), 127);
    }

    private static void fault1() {
        CHECK.promise(10, "FAULT 1: no TOKEN begins so");
        for (int sign = 0; sign < 256; sign++) {
            boolean letter = sign >= 'a' && sign <= 'z';
            boolean digit = sign >= '0' && sign <= '9';
            boolean blank = sign == 10 || sign == 32;
            boolean known = sign == ';' || sign == '<' || sign == '>' || sign == '=';
            if (blank) {
                CHECK.tableTaken("" + (char) sign);
            } else {
                CHECK.tableFault("" + (char) sign, letter || digit || known ? 2 : 1, 0);
            }
        }
        CHECK.tableFaultAt(1, "topic ^A worth 1 drift 1;");
        CHECK.tableFaultAt(1, "topic a^_ worth 1 drift 1;");
        CHECK.tableFaultAt(1, "topic a worth ^-1 drift 1;");
        CHECK.tableFaultAt(1, "odds 3^.0;");
        CHECK.promise(10, "FAULT 1: behind the last PART");
        CHECK.tableFaultAt(1, T + " ^:");
        CHECK.promise(10, "what is beyond the n bytes is no part of the text");
        TalkChutes x = new TalkChutes();
        Check.feed(x, "odds 3;!");
        CHECK.given("odds 3;", x, x.table(7), 0);
    }

    private static void fault2() {
        CHECK.promise(10, "FAULT 2: the end: the text's length");
        String[] cut = {"odds", "odds 3", "topic", "topic a", "topic a worth", "topic a worth 1", "topic a worth 1 drift", "topic a worth 1 drift 1",
            T + "claim", T + "claim b", T + "claim b at", T + "claim b at a", T + "claim b at a propped", T + "claim b at a needs",
            T + "talker", T + "talker b", T + "talker b seat", T + "talker b seat 1", T + "talker b seat 1 on", T + "talker b seat 1 on a",
            T + "talker b seat 1 on a fails", T + "talker b seat 1 on a fails 3", TWO + "feud", TWO + "feud p", TWO + "feud p q",
            T + "claim b at a;claim c at a needs b"};
        for (String text : cut) {
            CHECK.tableFaultAt(2, text + "^");
            CHECK.tableFaultAt(2, text + "  \n^");
        }
        CHECK.promise(10, "FAULT 2: it can't stand there");
        String[] wrong = {"^;", "^3;", "^a;", "^<", "^worth 3;", "^at;", "^say a b;", "^any;", "^end;", "odds ^;", "odds ^<", "odds ^a;", "odds 3 ^odds 3;", "odds 3 ^3;",
            "odds 3;^;", "topic ^;", "topic ^3", "topic a ^;", "topic a ^drift 1;", "topic a ^b", "topic a worth ^;", "topic a worth ^b", "topic a worth 1 ^;",
            "topic a worth 1 ^worth", "topic a worth 1 drift ^;", "topic a worth 1 drift 1 ^1;", "topic a worth 1 drift 1 ^topic",
            T + "claim ^;", T + "claim b ^;", T + "claim b ^on a;", T + "claim b ^a;", T + "claim b at ^;", T + "claim b at ^1;", T + "claim b at a ^a;",
            T + "claim b at a propped ^propped;", T + "claim b at a needs ^needs;", T + "claim b at a needs ^propped;", T + "claim b at a needs ^1;",
            T + "claim b at a ^fails 1;", T + "claim b at a propped ^b;", T + "talker ^;", T + "talker b ^on a;", T + "talker b ^;", T + "talker b seat ^;",
            T + "talker b seat ^a;", T + "talker b seat 1 ^;", T + "talker b seat 1 ^at a;", T + "talker b seat 1 ^fails 1;", T + "talker b seat 1 on ^;",
            T + "talker b seat 1 on ^1;", T + "talker b seat 1 on a ^a;", T + "talker b seat 1 on a fails ^;", T + "talker b seat 1 on a fails ^a;",
            T + "talker b seat 1 on a fails 1 ^fails 1;", TWO + "feud ^;", TWO + "feud p ^;", TWO + "feud p ^1;", TWO + "feud p q ^p;", TWO + "feud p ^> q;"};
        for (String text : wrong) {
            CHECK.tableFaultAt(2, text);
        }
    }

    private static void fault3() {
        CHECK.promise(10, "FAULT 3: a new NAME that is taken; one NAME is of one thing alone");
        String all = T + "claim c at a;talker p seat 1 on a;";
        String[] taken = {"a", "c", "p"};
        for (String name : taken) {
            CHECK.tableFaultAt(3, all + "topic ^" + name + " worth 1 drift 1;");
            CHECK.tableFaultAt(3, all + "claim ^" + name + " at a;");
            CHECK.tableFaultAt(3, all + "talker ^" + name + " seat 2 on a;");
        }
        CHECK.promise(10, "FAULT 3: a NAME that is no such one told ahead");
        String[] notTopics = {"c", "p", "d", "aa", "aaaaaaaa"};
        for (String name : notTopics) {
            CHECK.tableFaultAt(3, all + "claim d at ^" + name + ";");
            CHECK.tableFaultAt(3, all + "talker d seat 2 on ^" + name + ";");
        }
        String[] notClaims = {"a", "p", "d", "cc"};
        for (String name : notClaims) {
            CHECK.tableFaultAt(3, all + "claim d at a needs ^" + name + ";");
            CHECK.tableFaultAt(3, all + "claim d at a needs c ^" + name + ";");
        }
        String[] notTalkers = {"a", "c", "d", "pp"};
        for (String name : notTalkers) {
            CHECK.tableFaultAt(3, all + "feud ^" + name + " p;");
            CHECK.tableFaultAt(3, all + "feud p ^" + name + ";");
        }
        CHECK.promise(10, "what is named must be told ahead, not behind");
        CHECK.tableFaultAt(3, "claim c at ^a;" + T);
        CHECK.tableFaultAt(3, "talker p seat 1 on ^a;" + T);
        CHECK.tableFaultAt(3, T + "claim d at a needs ^e;claim e at a;");
        CHECK.tableFaultAt(3, T + "talker p seat 1 on a;feud p ^q;talker q seat 2 on a;");
        CHECK.promise(10, "a NAME of an older TABLE is none");
        TalkChutes x = Check.withTable(Check.TABLE);
        CHECK.refused("claim b at drains;", x, Check.table(x, "claim b at drains;"), 10);
        CHECK.fault("claim b at drains;", x, 3, 11);
        CHECK.given("it is free again", x, Check.table(x, "topic gus worth 1 drift 1;"), 0);
    }

    private static void fault4() {
        CHECK.promise(10, "FAULT 4: a NUMBER that can't be");
        CHECK.tableFaultAt(4, "odds ^17;");
        CHECK.tableFaultAt(4, "topic a worth ^21 drift 1;");
        CHECK.tableFaultAt(4, "topic a worth 1 drift ^4;");
        CHECK.tableFaultAt(4, T + "talker p seat ^10 on a;");
        CHECK.tableFaultAt(4, T + "talker p seat 1 on a fails ^17;");
        CHECK.tableFaultAt(4, "topic a worth ^9999 drift 1;");
        CHECK.tableFaultAt(4, T + "talker p seat ^0010 on a;");
    }

    private static void fault5() {
        CHECK.promise(10, "FAULT 5: odds told already (at that WORD)");
        CHECK.tableFaultAt(5, "odds 4;^odds 4;");
        CHECK.tableFaultAt(5, "odds 4;" + T + " ^odds");
        CHECK.promise(10, "FAULT 5: a CLAIM needed twice (at the second)");
        String three = T + "claim b at a;claim c at a;";
        CHECK.tableFaultAt(5, three + "claim d at a needs b ^b;");
        CHECK.tableFaultAt(5, three + "claim d at a needs b c ^b c;");
        CHECK.tableTaken(three + "claim d at a needs c b;claim e at a needs b c;");
        CHECK.promise(10, "FAULT 5: a SEAT in which one sits (at that NUMBER)");
        CHECK.tableFaultAt(5, T + "talker p seat 0 on a;talker q seat ^0 on a;");
        CHECK.tableFaultAt(5, T + "talker p seat 9 on a;talker q seat 3 on a;talker r seat ^9 on a;");
        CHECK.tableFaultAt(5, T + "talker p seat 1 on a;talker q seat ^0001 on a;");
        CHECK.promise(10, "FAULT 5: a FEUD of one with himself, of the same two (at the second NAME)");
        CHECK.tableFaultAt(5, TWO + "feud p ^p;");
        CHECK.tableFaultAt(5, TWO + "feud p q;feud p ^q;");
        CHECK.tableFaultAt(5, TWO + "feud p q;feud q ^p;");
        CHECK.tableFaultAt(5, TWO + "talker r seat 3 on a;feud p q;feud p r;feud q r;feud r ^p;");
    }

    private static void fault6() {
        CHECK.promise(10, "FAULT 6: a tenth topic, a ninth claim, a seventh talker, an 11th feud (at that WORD)");
        CHECK.tableFaultAt(6, Check.FULL + "^topic j worth 1 drift 1;");
        CHECK.tableFaultAt(6, Check.FULL + "^claim j at a;");
        CHECK.tableFaultAt(6, Check.FULL + "^talker j seat 0 on a;");
        CHECK.tableFaultAt(6, Check.FULL + "^feud ta tf;");
        CHECK.promise(10, "FAULT 6: at that WORD, whatever comes behind it");
        CHECK.tableFaultAt(6, Check.FULL + " ^topic");
        CHECK.tableFaultAt(6, Check.FULL + " ^claim !");
        CHECK.tableFaultAt(6, Check.FULL + " ^talker 12345");
        CHECK.tableFaultAt(6, Check.FULL + " ^feud ta ta;");
    }

    private static void theFirstFault() {
        CHECK.promise(10, "the first along the text");
        CHECK.tableFaultAt(4, "odds ^17 !");
        CHECK.tableFaultAt(5, "odds 1;^odds 17;");
        CHECK.tableFaultAt(3, T + "claim ^a at b needs c;");
        CHECK.tableFaultAt(2, "odds ^;!");
        CHECK.tableFaultAt(1, "odds ^!;odds 17;");
        CHECK.tableFaultAt(3, TWO + "feud ^r r;");
        CHECK.promise(10, "of one TOKEN the least kind: 1 ahead of 2, 4");
        CHECK.tableFaultAt(1, "odds ^00017;");
        CHECK.tableFaultAt(1, "^12345;");
        CHECK.tableFaultAt(1, "topic a worth 1 drift 1^!");
        CHECK.promise(10, "of one TOKEN the least kind: 2 ahead of 3, 3 ahead of 5");
        CHECK.tableFaultAt(2, "topic ^abcdefghi worth 1 drift 1;");
        CHECK.tableFaultAt(3, T + "claim b at a needs ^b;");
        CHECK.tableFaultAt(3, TWO + "feud p ^a;");
    }

    private static void eveningsOfSoManyBytes() {
        CHECK.promise(11, "5: n below 0, above what the tape has; the tape stays");
        int[] wrong = {-1, 21, 301, Integer.MIN_VALUE, Integer.MAX_VALUE};
        for (int n : wrong) {
            CHECK.changesNothing("evenings(" + n + ")", Check::rich, x -> x.evenings(n), 5);
        }
        CHECK.promise(11, "5: above 300, too");
        TalkChutes x = new TalkChutes();
        Check.feed(x, " ".repeat(296) + "any;" + " ".repeat(20));
        CHECK.refused("evenings(301)", x, x.evenings(301), 5);
        CHECK.refused("evenings(320)", x, x.evenings(320), 5);
        CHECK.due("fault is not told anew", x.fault(0), -1);
        CHECK.given("evenings(300)", x, x.evenings(300), 1);
        CHECK.refused("the tape is empty then", x, x.evenings(1), 5);
        CHECK.promise(11, "the tape is empty behind 10");
        CHECK.refused("!", x, Check.evenings(x, "!"), 10);
        CHECK.refused("empty", x, x.evenings(1), 5);
        CHECK.promise(11, "n 0: no STEPS");
        Check.feed(x, "any;");
        CHECK.given("evenings(0)", x, x.evenings(0), 0);
        CHECK.refused("the tape is empty then", x, x.evenings(1), 5);
        CHECK.promise(11, "the first n bytes");
        Check.feed(x, "any;any;");
        CHECK.given("evenings(4)", x, x.evenings(4), 1);
        Check.feed(x, "any;any;");
        CHECK.refused("evenings(7)", x, x.evenings(7), 10);
        CHECK.fault("any;any", x, 2, 7);
    }

    private static void eveningsInPlaceOfTheOldOnes() {
        CHECK.promise(11, "10: the old ones stay");
        String[] bad = {"!", "any;any;any;end;", "any;say gus", "loop 3;", "any;stop;drop gus 0;"};
        for (String text : bad) {
            TalkChutes x = Check.withEvenings(Check.TABLE, "say gus tune;say gus bill;");
            CHECK.refused(text, x, Check.evenings(x, text), 10);
            CHECK.given("live(0)", x, x.live(0), 2);
            CHECK.given("lived(1)", x, x.lived(1), 2);
            CHECK.given("who falls", x, x.many(8), 1);
        }
        CHECK.promise(11, "10: what a text with a FAULT left open is not open in the next one");
        TalkChutes open = Check.withTable(Check.TABLE);
        CHECK.refused("three loops without an end", open, Check.evenings(open, "loop 1;loop 1;loop 1;"), 10);
        CHECK.given("three loops", open, Check.evenings(open, "loop 1;loop 1;loop 1;end;end;end;"), 3);
        CHECK.refused("a loop without an end", open, Check.evenings(open, "loop 1;"), 10);
        CHECK.refused("an end without a beginning", open, Check.evenings(open, "end;"), 10);
        CHECK.fault("end;", open, 2, 0);
        CHECK.promise(10, "10: what a text with a FAULT told is not told in the next one");
        CHECK.refused("odds", open, Check.table(open, "odds 3;" + T + "!"), 10);
        CHECK.given("odds again", open, Check.table(open, "odds 5;" + T), 0);
        CHECK.given("one topic", open, open.many(0), 1);
        CHECK.promise(11, "likewise in place of those ahead");
        TalkChutes x = Check.withEvenings(Check.TABLE, "any;any;any;");
        CHECK.given("evenings", x, Check.evenings(x, "say gus rain;"), 1);
        CHECK.given("live(0)", x, x.live(0), 1);
        CHECK.promise(11, "the TABLE with all that became of it stays");
        x = Check.withTable(Check.TABLE);
        x.say(1, 2);
        CHECK.given("evenings", x, Check.evenings(x, "any;"), 1);
        CHECK.given("who falls", x, x.many(8), 2);
        CHECK.given("said", x, x.many(5), 1);
    }

    private static void numbersOfEvenings() {
        CHECK.promise(11, "drop by 1 to 9, high against 0 to 9, loop 1 to 99");
        CHECK.eveningsTaken("drop gus 1;drop gus 9;drop gus 0009;", 3);
        CHECK.eveningsTaken("when high gus<0;end;when high gus>9;end;when high gus=0009;end;", 3);
        CHECK.eveningsTaken("loop 1;end;loop 99;end;loop 0099;end;", 3);
        CHECK.promise(11, "{STEP}: none within a when, a loop");
        CHECK.eveningsTaken("when stands rain;end;when falls gus;end;loop 7;end;", 3);
        CHECK.eveningsTaken("", 0);
        CHECK.eveningsTaken(" \n \n", 0);
        CHECK.promise(11, "TOKENS as long as they go");
        CHECK.eveningsTaken("loop3;drop\ngus9;end;when high gus<9;end ;", 3);
        CHECK.promise(11, "of at most 300 bytes");
        CHECK.eveningsTaken("\n".repeat(295) + "stop;", 1);
        CHECK.eveningsTaken("stop;" + " ".repeat(295), 1);
        CHECK.eveningsFaultAt(1, " ".repeat(299) + "^!");
        CHECK.eveningsFaultAt(2, " ".repeat(296) + "stop^");
    }

    private static void thirtySteps() {
        CHECK.promise(11, "how many STEPS: at most 30; end is none");
        CHECK.eveningsTaken("any;".repeat(30), 30);
        CHECK.eveningsTaken("loop 1;end;".repeat(15) + "any;".repeat(15), 30);
        CHECK.eveningsTaken("loop 2;any;any;any;any;end;".repeat(6), 30);
        CHECK.eveningsTaken("any;".repeat(27) + "loop 1;loop 1;loop 1;end;end;end;", 30);
        TalkChutes x = CHECK.eveningsTaken("any;".repeat(12) + "loop 9;end;".repeat(18), 30);
        CHECK.given("live(0)", x, x.live(0), 30);
    }

    private static void threeDeep() {
        CHECK.promise(11, "a when, loop within two others may be");
        CHECK.eveningsTaken("loop 1;when falls gus;loop 2;any;end;end;end;", 4);
        CHECK.eveningsTaken("when falls gus;when falls may;when falls ned;end;end;end;", 3);
        CHECK.promise(11, "and another one behind that's end");
        CHECK.eveningsTaken("loop 1;loop 2;loop 3;end;loop 4;end;end;loop 5;loop 6;end;end;end;", 6);
        CHECK.promise(11, "a STEP that is no when, loop within three may be");
        CHECK.eveningsTaken("loop 1;loop 2;loop 3;stop;any;prop rain;end;end;end;", 6);
    }

    private static void eveningsFaults1And2() {
        CHECK.promise(11, "FAULT 1: no TOKEN begins so, a NUMBER of 5 digits and more");
        CHECK.eveningsFaultAt(1, "any;^:");
        CHECK.eveningsFaultAt(1, "loop ^00001;end;");
        CHECK.eveningsFaultAt(1, "drop gus ^12345");
        CHECK.eveningsFaultAt(1, "when high gus ^! 3;end;");
        CHECK.eveningsFaultAt(1, "any^\t;");
        CHECK.promise(11, "FAULT 2: an end without a beginning");
        CHECK.eveningsFaultAt(2, "^end;");
        CHECK.eveningsFaultAt(2, "any;^end;");
        CHECK.eveningsFaultAt(2, "loop 1;end;^end;");
        CHECK.eveningsFaultAt(2, "when falls gus;loop 2;end;end;^end;");
        CHECK.promise(11, "FAULT 2: the text's end ahead of an end");
        CHECK.eveningsFaultAt(2, "loop 1;^");
        CHECK.eveningsFaultAt(2, "loop 1;any; ^");
        CHECK.eveningsFaultAt(2, "loop 1;loop 1;loop 1;end;end;^");
        CHECK.eveningsFaultAt(2, "when falls gus; \n ^");
        CHECK.promise(11, "FAULT 2: the end: the text's length");
        String[] cut = {"say", "say gus", "say gus rain", "drop", "drop gus", "drop gus 1", "pull", "pull gus", "prop", "prop rain", "cut", "cut rain", "any",
            "when", "when stands", "when stands rain", "when falls", "when falls gus", "when high", "when high gus", "when high gus <", "when high gus < 1",
            "loop", "loop 1", "stop", "loop 1;end"};
        for (String text : cut) {
            CHECK.eveningsFaultAt(2, text + "^");
            CHECK.eveningsFaultAt(2, text + " \n^");
        }
        CHECK.promise(11, "FAULT 2: it can't stand there");
        String[] wrong = {"^;", "^gus;", "^3;", "^<;", "^odds 3;", "^topic a worth 1 drift 1;", "^stands rain;", "^high gus<3;", "^propped;", "say ^;", "say ^3", "say gus ^;",
            "say gus ^1", "say gus rain ^gus;", "drop ^1;", "drop gus ^;", "drop gus ^gus;", "pull ^;", "pull gus ^gus;", "prop ^;", "cut ^1;", "any ^gus;", "when ^;", "when ^gus;",
            "when ^any;", "when stands ^;", "when falls ^1;", "when high gus ^1;", "when high gus ^;", "when high gus ^gus;", "when high gus < ^<", "when high gus = ^;",
            "when stands rain ^any;end;", "loop ^;", "loop ^gus;", "loop 1 ^any;end;", "stop ^3;", "loop 1;end ^end;", "any;^;", "say ^when rain;", "say ^abcdefghi rain;"};
        for (String text : wrong) {
            CHECK.eveningsFaultAt(2, text);
        }
        for (String word : WORDS) {
            CHECK.eveningsFaultAt(2, "pull ^" + word + ";");
            CHECK.eveningsFaultAt(2, "prop ^" + word + ";");
        }
    }

    private static void eveningsFault3() {
        CHECK.promise(11, "FAULT 3: a TALKER first behind say, behind drop, pull, falls, high");
        String[] noTalkers = {"rain", "drains", "nobody", "gu", "guss"};
        for (String name : noTalkers) {
            CHECK.eveningsFaultAt(3, "say ^" + name + " rain;");
            CHECK.eveningsFaultAt(3, "drop ^" + name + " 1;");
            CHECK.eveningsFaultAt(3, "pull ^" + name + ";");
            CHECK.eveningsFaultAt(3, "when falls ^" + name + ";end;");
            CHECK.eveningsFaultAt(3, "when high ^" + name + "<1;end;");
        }
        CHECK.promise(11, "FAULT 3: else a CLAIM");
        String[] noClaims = {"gus", "drains", "nobody", "rai", "rains"};
        for (String name : noClaims) {
            CHECK.eveningsFaultAt(3, "say gus ^" + name + ";");
            CHECK.eveningsFaultAt(3, "prop ^" + name + ";");
            CHECK.eveningsFaultAt(3, "cut ^" + name + ";");
            CHECK.eveningsFaultAt(3, "when stands ^" + name + ";end;");
        }
        CHECK.promise(11, "FAULT 3: a CLAIM that was thought has no NAME");
        TalkChutes x = Check.withTable(Check.TABLE);
        x.think(0, 0);
        CHECK.refused("prop a;", x, Check.evenings(x, "prop a;"), 10);
        CHECK.fault("prop a;", x, 3, 5);
    }

    private static void eveningsFault4() {
        CHECK.promise(11, "FAULT 4: a NUMBER that can't be");
        CHECK.eveningsFaultAt(4, "drop gus ^0;");
        CHECK.eveningsFaultAt(4, "drop gus ^10;");
        CHECK.eveningsFaultAt(4, "drop gus ^0000;");
        CHECK.eveningsFaultAt(4, "when high gus<^10;end;");
        CHECK.eveningsFaultAt(4, "when high gus=^9999;end;");
        CHECK.eveningsFaultAt(4, "loop ^0;end;");
        CHECK.eveningsFaultAt(4, "loop ^100;end;");
    }

    private static void eveningsFaults6And7() {
        CHECK.promise(11, "FAULT 6: a 31st STEP (at its WORD; end is none)");
        String thirty = "any;".repeat(29) + "loop 2;";
        String[] steps = {"say gus rain;", "drop gus 1;", "pull gus;", "prop rain;", "cut rain;", "any;", "when falls gus;end;", "loop 1;end;", "stop;", "stop", "drop !"};
        for (String step : steps) {
            CHECK.eveningsFaultAt(6, thirty + "^" + step);
            CHECK.eveningsFaultAt(6, thirty + "end; ^" + step);
        }
        CHECK.eveningsTaken(thirty + "end;", 30);
        CHECK.promise(11, "FAULT 7: a when, loop within three others (at its WORD)");
        String three = "loop 1;when falls gus;loop 99;";
        CHECK.eveningsFaultAt(7, three + "^loop 1;end;end;end;end;");
        CHECK.eveningsFaultAt(7, three + "any;^when falls gus;end;end;end;end;");
        CHECK.eveningsFaultAt(7, three + "end;loop 2;^loop 1;");
        CHECK.eveningsFaultAt(7, three + "^loop 0;");
        CHECK.eveningsFaultAt(7, three + "^when");
        CHECK.promise(11, "of one TOKEN the least kind: 6 ahead of 7, 2 ahead of 6");
        String both = "any;".repeat(27) + three;
        CHECK.eveningsFaultAt(6, both + "^loop 1;");
        CHECK.eveningsFaultAt(6, both + "^when falls gus;");
        CHECK.eveningsFaultAt(2, both + "^odds 1;");
        CHECK.eveningsFaultAt(2, both + "end;end;end;^end;");
        CHECK.eveningsFaultAt(1, both + "^!");
    }

    private static void fault() {
        CHECK.promise(12, "NONE ahead of any");
        TalkChutes x = new TalkChutes();
        CHECK.fault("new", x, -1, -1);
        x.table(1);
        x.evenings(-1);
        CHECK.fault("behind 5 alone", x, -1, -1);
        CHECK.promise(12, "0 without one; its place NONE without");
        x.table(0);
        CHECK.fault("table(0)", x, 0, -1);
        CHECK.promise(12, "of the latest of these with STATUS 0 or 10");
        Check.table(x, "odds 17;");
        CHECK.fault("odds 17;", x, 4, 5);
        x.table(1);
        x.table(-1);
        x.evenings(301);
        CHECK.fault("behind 5 as ahead of it", x, 4, 5);
        x.many(0);
        x.live(0);
        CHECK.fault("behind other calls", x, 4, 5);
        Check.evenings(x, " end;");
        CHECK.fault("of evenings", x, 2, 1);
        Check.evenings(x, "any;");
        CHECK.fault("of evenings that are taken", x, 0, -1);
        Check.evenings(x, "!");
        Check.table(x, "");
        CHECK.fault("of a table that is taken", x, 0, -1);
        CHECK.promise(12, "its place: the first, the last byte, the text's length");
        Check.table(x, "!");
        CHECK.fault("!", x, 1, 0);
        Check.table(x, " ".repeat(899) + "!");
        CHECK.fault("the 900th byte", x, 1, 899);
        Check.table(x, " ".repeat(896) + "odds");
        CHECK.fault("the text's length", x, 2, 900);
        CHECK.promise(12, "NONE for others");
        int[] others = {-1, 2, 3, Integer.MIN_VALUE, Integer.MAX_VALUE};
        for (int what : others) {
            CHECK.due("fault(" + what + ")", x.fault(what), -1);
        }
        CHECK.promise(12, "MARKS do not take it back");
        x.mark();
        Check.table(x, "odds 17;");
        x.back();
        CHECK.fault("behind back()", x, 4, 5);
    }
}
