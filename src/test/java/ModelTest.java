import java.util.ArrayList;
import java.util.Arrays;
import java.util.List;
import java.util.Random;

/** All promises: the class and the model get the same calls, most of them sound, and must answer alike. */
final class ModelTest {
    private static final Check CHECK = new Check();
    private static final int RUNS = 400;
    private static final int MOST_CALLS = 512;
    private static final String[] NAMES = "a b c d e f g h i j k l m n o p q r s t u v w x y z ab abcdefgh zzzzzzzz".split(" ");

    private final Random random;
    private final TalkChutes x = new TalkChutes();
    private final Model m = new Model();
    private int calls = 0;
    private String call = "";
    private int topic;
    private int height;
    private int to;
    private int claim;
    private int talker;
    private int other;

    private ModelTest(long seed) {
        random = new Random(seed);
    }

    public static void main(String[] args) {
        int runs = args.length > 0 ? Integer.parseInt(args[0]) : RUNS;
        int from = args.length > 1 ? Integer.parseInt(args[1]) : 0;
        for (int seed = from; seed < from + runs; seed++) {
            new ModelTest(seed).run();
        }
        CHECK.end("ModelTest");
    }

    private int upTo(int n) {
        return random.nextInt(n + 1);
    }

    private boolean oneIn(int n) {
        return random.nextInt(n) == 0;
    }

    /** Most often one of so many, now and then one beyond, or any int. */
    private int near(int count) {
        if (count == 0 || oneIn(15)) {
            return oneIn(3) ? -1 : oneIn(2) ? count : oneIn(2) ? random.nextInt() : random.nextInt(12);
        }
        return random.nextInt(count);
    }

    private String pick(List<String> names) {
        return names.isEmpty() || oneIn(60) ? NAMES[random.nextInt(NAMES.length)] : names.get(random.nextInt(names.size()));
    }

    private String tableText() {
        StringBuilder text = new StringBuilder();
        List<String> free = new ArrayList<>(Arrays.asList(NAMES));
        List<String> topics = new ArrayList<>();
        List<String> claims = new ArrayList<>();
        List<String> talkers = new ArrayList<>();
        if (!oneIn(4)) {
            text.append("odds ").append(upTo(16)).append(';');
        }
        int many = 1 + upTo(8);
        for (int i = 0; i < many; i++) {
            topics.add(free.remove(random.nextInt(free.size())));
            text.append("topic ").append(topics.get(i)).append(" worth ").append(upTo(20)).append(" drift ").append(upTo(3)).append("; ");
        }
        many = upTo(8);
        for (int i = 0; i < many; i++) {
            String name = free.remove(random.nextInt(free.size()));
            text.append("claim ").append(name).append(" at ").append(pick(topics)).append(oneIn(3) ? " propped" : "");
            if (oneIn(2)) {
                text.append(" needs");
                for (String needed : claims) {
                    text.append(oneIn(3) ? " " + needed : "");
                }
            }
            text.append(";\n");
            claims.add(name);
        }
        many = upTo(6);
        int first = random.nextInt(10);
        for (int i = 0; i < many; i++) {
            talkers.add(free.remove(random.nextInt(free.size())));
            text.append("talker ").append(talkers.get(i)).append(" seat ").append((first + i) % 10).append(" on ").append(pick(topics));
            text.append(oneIn(2) ? " fails " + upTo(16) : "").append(';');
        }
        int feuds = 0;
        for (int i = 0; i < many; i++) {
            for (int j = 0; j < i; j++) {
                if (feuds < 10 && !oneIn(3)) {
                    boolean turned = oneIn(2);
                    text.append("feud ").append(talkers.get(turned ? i : j)).append(' ').append(talkers.get(turned ? j : i)).append(';');
                    feuds++;
                }
            }
        }
        return text.toString();
    }

    private void steps(StringBuilder text, int depth) {
        int many = upTo(depth == 0 ? 8 : 3);
        for (int i = 0; i < many; i++) {
            String talker = pick(m.s.talkerNames);
            String claim = pick(m.s.claimNames);
            switch (random.nextInt(12)) {
                case 0: text.append("say ").append(talker).append(' ').append(claim).append(';'); break;
                case 1: text.append("drop ").append(talker).append(' ').append(1 + upTo(4)).append(';'); break;
                case 2: text.append("pull ").append(talker).append(';'); break;
                case 3: text.append("prop ").append(claim).append(';'); break;
                case 4: text.append("cut ").append(claim).append(';'); break;
                case 5: text.append(oneIn(6) ? "stop;" : "any;"); break;
                case 6: nest(text, "when stands " + claim, depth); break;
                case 7: nest(text, "when falls " + talker, depth); break;
                case 8: nest(text, "when high " + talker + "<>=".charAt(random.nextInt(3)) + upTo(9), depth); break;
                case 9:
                case 10: nest(text, "loop " + (1 + upTo(oneIn(2) ? 98 : 4)), depth); break;
                default: text.append("any;"); break;
            }
        }
    }

    private void nest(StringBuilder text, String head, int depth) {
        if (depth < 3 || oneIn(20)) {
            text.append(head).append(";\n");
            steps(text, depth + 1);
            text.append("end;");
        }
    }

    /** Now and then some signs, words, numbers are taken out, put in, put elsewhere. */
    private String harm(String text) {
        StringBuilder harmed = new StringBuilder(text);
        String[] odd = {";", ";", "12345", "0", "99", "17", "abcdefghi", "topic", "needs", "propped", "end", "loop", "when", "odds", "a", "!", "<", "\t", " ", "feud", "talker", "claim"};
        int many = oneIn(3) ? 1 + upTo(2) : 0;
        for (int i = 0; i < many; i++) {
            int at = upTo(harmed.length());
            if (oneIn(2)) {
                harmed.insert(at, (oneIn(2) ? " " : "") + odd[random.nextInt(odd.length)] + (oneIn(2) ? " " : ""));
            } else if (at < harmed.length()) {
                harmed.delete(at, Math.min(harmed.length(), at + 1 + upTo(6)));
            }
        }
        return harmed.toString();
    }

    private void feed(String text) {
        for (int i = 0; i < text.length(); i += 20) {
            int[] v = {Check.four(text, i), Check.four(text, i + 4), Check.four(text, i + 8), Check.four(text, i + 12), Check.four(text, i + 16)};
            call = "feed";
            same(x.feed(v[0], v[1], v[2], v[3], v[4]), m.feed(v));
        }
    }

    private void same(long got, long want) {
        calls++;
        CHECK.due(call, got, want);
        CHECK.due(call + ", status", x.status(), m.status);
    }

    private void same(boolean got, boolean want) {
        same(got ? 1L : 0L, want ? 1L : 0L);
        CHECK.due(call + ", top", x.top(), m.top.longValueExact());
        CHECK.due(call + ", bottom", x.bottom(), m.bottom.longValueExact());
    }

    private void giveTable() {
        String text = harm(tableText());
        feed(text);
        call = "table: " + text;
        same(x.table(text.length()), m.table(text.length()));
        faults();
    }

    private void giveEvenings() {
        StringBuilder made = new StringBuilder();
        steps(made, 0);
        String text = harm(made.toString());
        feed(text);
        call = "evenings: " + text;
        same(x.evenings(text.length()), m.evenings(text.length()));
        faults();
    }

    private void faults() {
        same(x.fault(0), m.fault(0));
        same(x.fault(1), m.fault(1));
    }

    private void run() {
        giveTable();
        giveEvenings();
        while (calls < MOST_CALLS - 110) {
            int which = random.nextInt(60);
            int[] a = new int[5];
            for (int i = 0; i < a.length; i++) {
                a[i] = near(6);
            }
            topic = near(m.s.worth.size());
            height = near(m.s.worth.size() + 1);
            to = near(m.s.worth.size() + 1);
            claim = near(m.s.claimTopic.size());
            talker = near(m.s.seat.size());
            other = near(m.s.seat.size());
            call = "call " + which + Arrays.toString(a) + Arrays.toString(new int[] {topic, height, to, claim, talker, other});
            if (which < 20) {
                doings(which, a);
            } else if (which < 40) {
                askings(which, a);
            } else {
                others(which, a);
            }
        }
    }

    private void doings(int which, int[] a) {
        switch (which) {
            case 0:
            case 1:
            case 2:
            case 3: same(x.say(talker, claim), m.say(talker, claim)); break;
            case 4: same(x.drop(talker, a[1]), m.drop(talker, a[1])); break;
            case 5: same(x.pull(talker, a[1] % 2 == 0), m.pull(talker, a[1] % 2 == 0)); break;
            case 6: same(x.prop(claim), m.prop(claim)); break;
            case 7: same(x.cut(claim), m.cut(claim)); break;
            case 8:
            case 9: same(x.lift(talker, height), m.lift(talker, height)); break;
            case 10: same(x.rewrite(topic, a[1] % 3, a[2]), m.rewrite(topic, a[1] % 3, a[2])); break;
            case 11:
                int needs = oneIn(10) ? a[1] : random.nextInt(1 << m.s.claimTopic.size());
                same(x.think(topic, needs), m.think(topic, needs));
                break;
            case 12: same(x.anger(talker, other), m.anger(talker, other)); break;
            case 13: same(x.rule(a[0] + a[1]), m.rule(a[0] + a[1])); break;
            case 14: same(x.mark(), m.mark()); break;
            case 15: same(x.back(), m.back()); break;
            case 16:
            case 17:
                int seed = oneIn(10) ? random.nextInt(10010) - 5 : random.nextInt(10000);
                same(x.live(seed), m.live(seed));
                for (int what = 0; what < 6; what++) {
                    same(x.lived(what), m.lived(what));
                }
                break;
            case 18:
                if (oneIn(4)) {
                    giveTable();
                }
                break;
            default:
                giveEvenings();
                break;
        }
    }

    private void askings(int which, int[] a) {
        switch (which) {
            case 20: same(x.many(a[0]), m.many(a[0])); break;
            case 21: same(x.topic(topic, a[1] % 5), m.topic(topic, a[1] % 5)); break;
            case 22: same(x.claim(claim, a[1] % 5), m.claim(claim, a[1] % 5)); break;
            case 23: same(x.talker(talker, a[1]), m.talker(talker, a[1])); break;
            case 24: same(x.feud(a[0], a[1] % 3), m.feud(a[0], a[1] % 3)); break;
            case 25: same(x.holdsUp(claim), m.holdsUp(claim)); break;
            case 26: same(x.holdsUpSet(claim), m.holdsUpSet(claim)); break;
            case 27: same(x.bringsDown(claim), m.bringsDown(claim)); break;
            case 28:
            case 29: same(x.way(height, to), m.way(height, to)); break;
            case 30:
            case 31:
            case 32: same(x.wayAt(height, to, a[2] % 3, a[3] % 4), m.wayAt(height, to, a[2] % 3, a[3] % 4)); break;
            case 33: same(x.from(height), m.from(height)); break;
            case 34: same(x.oddsThat(height, claim), m.oddsThat(height, claim)); break;
            case 35: same(x.best(talker, height), m.best(talker, height)); break;
            case 36: same(x.bestAt(talker, height), m.bestAt(talker, height)); break;
            case 37: same(x.chutes(a[0]), m.chutes(a[0])); break;
            case 38: same(x.fault(a[0]), m.fault(a[0])); break;
            default:
                int seed = random.nextInt(10000);
                same(x.mean(seed, a[0] * 2), m.mean(seed, a[0] * 2));
                break;
        }
    }

    private void others(int which, int[] a) {
        long v = oneIn(3) ? random.nextLong() : random.nextInt(10);
        switch (which) {
            case 40: if (oneIn(20)) same(x.peace(), m.peace()); break;
            case 41: same(x.quarrels(a[0]), m.quarrels(a[0])); break;
            case 42: same(x.spread(a[0], talker), m.spread(a[0], talker)); break;
            case 43: if (oneIn(5)) same(x.seating(), m.seating()); break;
            case 44: if (oneIn(3)) same(x.seatOf(talker), m.seatOf(talker)); break;
            case 45: same(x.game(talker, other, a[2]), m.game(talker, other, a[2])); break;
            case 46:
            case 47: same(x.moveOf(talker, other, a[2]), m.moveOf(talker, other, a[2])); break;
            case 48:
            case 49: same(x.tray(a[0] % 5, a[1] % 5, 5 * a[2]), m.tray(a[0] % 5, a[1] % 5, 5 * a[2])); break;
            case 50: same(x.write(a[0] % 5, a[1], v), m.write(a[0] % 5, a[1], v)); break;
            case 51: same(x.read(a[0] % 5, a[1]), m.read(a[0] % 5, a[1])); break;
            case 52:
            case 53: same(x.pour(a[0] % 5, a[1], a[2] % 5, a[3], a[4]), m.pour(a[0] % 5, a[1], a[2] % 5, a[3], a[4])); break;
            case 54: same(x.copyHeights(a[0] % 5), m.copyHeights(a[0] % 5)); break;
            default: laws(a); break;
        }
    }

    /** What one law makes be seen, so that some fit; now and then a number of it is wrong. */
    private void laws(int[] a) {
        int tray = random.nextInt(4);
        int twos = upTo(3);
        same(x.tray(tray, 1, 2 * twos + 1), m.tray(tray, 1, 2 * twos + 1));
        int slope = random.nextInt(4);
        int shift = random.nextInt(8);
        for (int i = 0; i < twos; i++) {
            int height = 1 + random.nextInt(9);
            int landed = Math.max(0, height - (slope * height + shift) / 4) + (oneIn(30) ? upTo(12) - 6 : 0);
            same(x.write(tray, 2 * i, height), m.write(tray, 2 * i, height));
            same(x.write(tray, 2 * i + 1, landed), m.write(tray, 2 * i + 1, landed));
        }
        int n = oneIn(8) ? a[0] : twos;
        call = "laws " + n;
        same(x.laws(tray, n), m.laws(tray, n));
        same(x.lawOf(tray, n, a[1] % 3), m.lawOf(tray, n, a[1] % 3));
        same(x.ask(tray, n), m.ask(tray, n));
    }
}
