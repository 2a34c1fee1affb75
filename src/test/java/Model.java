import java.math.BigInteger;
import java.util.ArrayDeque;
import java.util.ArrayList;
import java.util.Deque;
import java.util.List;

/** The class once more, written from the document with no thought of room or speed: by trying all there is. */
final class Model {
    static final class State {
        int odds = 4;
        final List<Integer> worth = new ArrayList<>();
        final List<Integer> drift = new ArrayList<>();
        final List<Integer> claimTopic = new ArrayList<>();
        final List<List<Integer>> needs = new ArrayList<>();
        final List<Boolean> propped = new ArrayList<>();
        final List<Integer> seat = new ArrayList<>();
        final List<Integer> height = new ArrayList<>();
        final List<Boolean> falls = new ArrayList<>();
        final List<Integer> fails = new ArrayList<>();
        final List<int[]> feuds = new ArrayList<>();
        final List<String> claimNames = new ArrayList<>();
        final List<String> talkerNames = new ArrayList<>();
        int said = 0;
        List<ModelTexts.Step> evenings = null;

        State copy() {
            State s = new State();
            s.odds = odds;
            s.worth.addAll(worth);
            s.drift.addAll(drift);
            s.claimTopic.addAll(claimTopic);
            s.needs.addAll(needs);
            s.propped.addAll(propped);
            s.seat.addAll(seat);
            s.height.addAll(height);
            s.falls.addAll(falls);
            s.fails.addAll(fails);
            s.feuds.addAll(feuds);
            s.claimNames.addAll(claimNames);
            s.talkerNames.addAll(talkerNames);
            s.said = said;
            s.evenings = evenings;
            return s;
        }

        boolean stands(int claim, int banned) {
            if (claim == banned) {
                return false;
            }
            if (propped.get(claim)) {
                return true;
            }
            boolean all = !needs.get(claim).isEmpty();
            for (int n : needs.get(claim)) {
                all &= stands(n, banned);
            }
            return all;
        }

        boolean stands(int claim) {
            return stands(claim, -1);
        }

        boolean canSay(int talker, int claim) {
            int h = claimTopic.get(claim) + 1;
            return !falls.get(talker) && height.get(talker) > 0 && Math.abs(h - height.get(talker)) < 2;
        }

        void say(int talker, int claim) {
            height.set(talker, claimTopic.get(claim) + 1);
            falls.set(talker, !stands(claim));
            said++;
        }

        void drop(int talker, int by) {
            height.set(talker, Math.max(0, height.get(talker) - by));
            falls.set(talker, height.get(talker) > 0);
        }

        void pull(int talker, boolean holds) {
            int h = height.get(talker);
            height.set(talker, holds ? lands(h) : 0);
            falls.set(talker, false);
        }

        int lands(int h) {
            return Math.max(0, h - drift.get(h - 1));
        }

        int worthOf(int h) {
            return h == 0 ? 0 : worth.get(h - 1);
        }
    }

    final List<String> topicNames = new ArrayList<>();
    final List<String> claimNames = new ArrayList<>();
    final List<String> talkerNames = new ArrayList<>();

    int status = 0;
    BigInteger top = BigInteger.ZERO;
    BigInteger bottom = BigInteger.ONE;
    final long[][] trays = new long[4][];
    final int[] sorts = new int[4];
    StringBuilder tape = new StringBuilder();
    int fault = -1;
    int place = -1;
    State s = new State();
    final Deque<State> marks = new ArrayDeque<>();
    int[] lived = null;

    private boolean isTopic(int t) {
        return t >= 0 && t < s.worth.size();
    }

    private boolean isHeight(int h) {
        return h >= 0 && h <= s.worth.size();
    }

    private boolean isClaim(int c) {
        return c >= 0 && c < s.claimTopic.size();
    }

    private boolean isTalker(int t) {
        return t >= 0 && t < s.seat.size();
    }

    /** The least of the statuses that hold, told as twos: a status, 1 if it holds. */
    private boolean wrong(Object... twos) {
        status = 0;
        for (int i = 0; i < twos.length; i += 2) {
            if ((Boolean) twos[i + 1]) {
                status = (Integer) twos[i];
                return true;
            }
        }
        return false;
    }

    private boolean tell(BigInteger a, BigInteger b) {
        BigInteger g = a.gcd(b);
        top = a.divide(g);
        bottom = b.divide(g);
        return true;
    }

    private boolean tell(long a, long b) {
        return tell(BigInteger.valueOf(a), BigInteger.valueOf(b));
    }

    boolean tray(int tray, int sort, int many) {
        if (wrong(1, tray < 0 || tray > 3 || sort < 0 || sort > 3, 5, many > 60, 6, many < 0)) {
            return false;
        }
        trays[tray] = new long[many];
        sorts[tray] = sort;
        return true;
    }

    private boolean noTray(int tray) {
        return tray < 0 || tray > 3;
    }

    boolean write(int tray, int place, long v) {
        if (wrong(1, noTray(tray)) || wrong(3, trays[tray] == null) || wrong(4, place < 0 || place >= trays[tray].length)) {
            return false;
        }
        int bits = 64 - (8 << sorts[tray]);
        trays[tray][place] = v << bits >> bits;
        return true;
    }

    long read(int tray, int place) {
        if (wrong(1, noTray(tray)) || wrong(3, trays[tray] == null) || wrong(4, place < 0 || place >= trays[tray].length)) {
            return -1;
        }
        return trays[tray][place];
    }

    boolean pour(int tray, int i, int to, int j, int many) {
        if (wrong(1, noTray(tray) || noTray(to)) || wrong(3, trays[tray] == null || trays[to] == null)
            || wrong(11, sorts[tray] != sorts[to], 6, many < 0)
            || wrong(4, i < 0 || j < 0 || (long) i + many > trays[tray].length || (long) j + many > trays[to].length)) {
            return false;
        }
        long[] old = trays[tray].clone();
        for (int k = 0; k < many; k++) {
            trays[to][j + k] = old[i + k];
        }
        return true;
    }

    int feed(int... five) {
        if (tape.length() + 20 > 900) {
            return -1;
        }
        for (int v : five) {
            tape.append((char) (v >>> 24)).append((char) (v >>> 16 & 255)).append((char) (v >>> 8 & 255)).append((char) (v & 255));
        }
        return tape.length();
    }

    private String takeTape(int n) {
        String text = tape.substring(0, n);
        tape = new StringBuilder();
        fault = 0;
        place = -1;
        return text;
    }

    private int atFault(ModelTexts.Fault f) {
        fault = f.kind;
        place = f.place;
        status = 10;
        return -1;
    }

    int table(int n) {
        if (wrong(5, n < 0 || n > tape.length())) {
            return -1;
        }
        String text = takeTape(n);
        try {
            s = ModelTexts.table(text);
            return s.seat.size();
        } catch (ModelTexts.Fault f) {
            return atFault(f);
        }
    }

    int evenings(int n) {
        if (wrong(5, n < 0 || n > tape.length() || n > 300)) {
            return -1;
        }
        String text = takeTape(n);
        try {
            s.evenings = ModelTexts.evenings(text, s);
            return ModelTexts.steps(s.evenings);
        } catch (ModelTexts.Fault f) {
            return atFault(f);
        }
    }

    int fault(int what) {
        return what == 0 ? fault : what == 1 ? place : -1;
    }

    int many(int what) {
        if (wrong(5, what < 0 || what > 9)) {
            return -1;
        }
        int set = 0;
        for (int i = 0; i < (what < 8 ? s.claimTopic.size() : s.seat.size()) && what > 5; i++) {
            boolean in = what == 6 ? s.stands(i) : what == 7 ? s.propped.get(i) : what == 8 ? s.falls.get(i) : s.height.get(i) == 0;
            set += in ? 1 << i : 0;
        }
        int[] counts = {s.worth.size(), s.claimTopic.size(), s.seat.size(), s.feuds.size(), s.odds, s.said};
        return what < 6 ? counts[what] : set;
    }

    int topic(int topic, int what) {
        if (wrong(2, !isTopic(topic), 5, what < 0 || what > 3)) {
            return -1;
        }
        int set = 0;
        List<Integer> row = what == 2 ? s.claimTopic : s.height;
        for (int i = 0; i < row.size(); i++) {
            set += row.get(i) == (what == 2 ? topic : topic + 1) ? 1 << i : 0;
        }
        return what == 0 ? s.worth.get(topic) : what == 1 ? s.drift.get(topic) : set;
    }

    int claim(int claim, int what) {
        if (wrong(2, !isClaim(claim), 5, what < 0 || what > 3)) {
            return -1;
        }
        int set = 0;
        for (int n : s.needs.get(claim)) {
            set += 1 << n;
        }
        int[] told = {s.claimTopic.get(claim), set, s.propped.get(claim) ? 1 : 0, s.stands(claim) ? 1 : 0};
        return told[what];
    }

    int talker(int talker, int what) {
        if (wrong(2, !isTalker(talker), 5, what < 0 || what > 4)) {
            return -1;
        }
        int set = 0;
        for (int c = 0; c < s.claimTopic.size(); c++) {
            set += s.canSay(talker, c) ? 1 << c : 0;
        }
        int[] told = {s.seat.get(talker), s.height.get(talker), s.falls.get(talker) ? 1 : 0, s.fails.get(talker), set};
        return told[what];
    }

    int feud(int feud, int what) {
        if (wrong(2, feud < 0 || feud >= s.feuds.size(), 5, what < 0 || what > 1)) {
            return -1;
        }
        return s.feuds.get(feud)[what];
    }

    int copyHeights(int tray) {
        if (wrong(1, noTray(tray)) || wrong(3, trays[tray] == null) || wrong(4, trays[tray].length < s.seat.size())) {
            return -1;
        }
        for (int i = 0; i < s.seat.size(); i++) {
            trays[tray][i] = s.height.get(i);
        }
        return s.seat.size();
    }

    int say(int talker, int claim) {
        if (wrong(2, !isTalker(talker) || !isClaim(claim)) || wrong(9, !s.canSay(talker, claim))) {
            return -1;
        }
        s.say(talker, claim);
        return s.height.get(talker);
    }

    int drop(int talker, int by) {
        if (wrong(2, !isTalker(talker), 5, by < 1 || by > 9) || wrong(9, !s.falls.get(talker))) {
            return -1;
        }
        s.drop(talker, by);
        return s.height.get(talker);
    }

    int pull(int talker, boolean holds) {
        if (wrong(2, !isTalker(talker)) || wrong(9, !s.falls.get(talker))) {
            return -1;
        }
        s.pull(talker, holds);
        return s.height.get(talker);
    }

    private int standing() {
        int sum = 0;
        for (int c = 0; c < s.claimTopic.size(); c++) {
            sum += s.stands(c) ? 1 : 0;
        }
        return sum;
    }

    int prop(int claim) {
        if (wrong(2, !isClaim(claim)) || wrong(9, s.propped.get(claim))) {
            return -1;
        }
        s.propped.set(claim, true);
        return standing();
    }

    int cut(int claim) {
        if (wrong(2, !isClaim(claim)) || wrong(9, !s.propped.get(claim))) {
            return -1;
        }
        s.propped.set(claim, false);
        return standing();
    }

    int lift(int talker, int height) {
        if (wrong(2, !isTalker(talker) || !isHeight(height), 5, height == 0)) {
            return -1;
        }
        s.falls.set(talker, false);
        return s.height.set(talker, height);
    }

    int rewrite(int topic, int what, int much) {
        if (wrong(2, !isTopic(topic), 5, what < 0 || what > 1 || much < 0 || much > (what == 0 ? 20 : 3))) {
            return -1;
        }
        return (what == 0 ? s.worth : s.drift).set(topic, much);
    }

    int think(int topic, int needs) {
        int n = s.claimTopic.size();
        if (wrong(2, !isTopic(topic), 5, needs < 0 || needs >> n != 0, 7, n == 8)) {
            return -1;
        }
        List<Integer> row = new ArrayList<>();
        for (int c = 0; c < n; c++) {
            if ((needs & 1 << c) != 0) {
                row.add(c);
            }
        }
        s.claimTopic.add(topic);
        s.needs.add(row);
        s.propped.add(false);
        s.claimNames.add("!");
        return n;
    }

    int anger(int talker, int other) {
        boolean there = false;
        for (int[] f : s.feuds) {
            there |= f[0] == talker && f[1] == other || f[0] == other && f[1] == talker;
        }
        if (wrong(2, !isTalker(talker) || !isTalker(other), 5, talker == other, 7, s.feuds.size() == 10, 9, there)) {
            return -1;
        }
        s.feuds.add(new int[] {talker, other});
        return s.feuds.size() - 1;
    }

    boolean rule(int odds) {
        if (wrong(5, odds < 0 || odds > 16)) {
            return false;
        }
        s.odds = odds;
        return true;
    }

    int holdsUpSet(int claim) {
        if (wrong(2, !isClaim(claim))) {
            return -1;
        }
        int best = -1;
        for (int set = 0; set < 1 << s.claimTopic.size(); set++) {
            State t = s.copy();
            for (int c = 0; c < s.claimTopic.size(); c++) {
                if ((set & 1 << c) != 0) {
                    t.propped.set(c, true);
                }
            }
            if (t.stands(claim) && (best < 0 || Integer.bitCount(set) < Integer.bitCount(best))) {
                best = set;
            }
        }
        return best;
    }

    int holdsUp(int claim) {
        int set = holdsUpSet(claim);
        return status == 0 ? Integer.bitCount(set) : -1;
    }

    int bringsDown(int claim) {
        if (wrong(2, !isClaim(claim)) || wrong(9, !s.stands(claim))) {
            return -1;
        }
        int set = 0;
        for (int c = 0; c < s.claimTopic.size(); c++) {
            set += s.stands(c) && !s.stands(c, claim) ? 1 << c : 0;
        }
        return set;
    }

    /** By a real saying, drop and pull of one more talker. */
    private int end(int claim, int by) {
        State t = s.copy();
        int extra = t.seat.size();
        t.seat.add(0);
        t.height.add(0);
        t.falls.add(false);
        t.fails.add(0);
        t.say(extra, claim);
        if (t.falls.get(extra)) {
            t.drop(extra, by);
            if (t.falls.get(extra)) {
                t.pull(extra, true);
            }
        }
        return t.height.get(extra);
    }

    /** Forward, each height reached first by the first of the shortest rows. */
    private List<int[]> row(int height, int to) {
        List<List<int[]>> rows = new ArrayList<>();
        boolean[] seen = new boolean[s.worth.size() + 1];
        rows.add(new ArrayList<>());
        seen[height] = true;
        for (int i = 0; i < rows.size(); i++) {
            List<int[]> r = rows.get(i);
            int at = r.isEmpty() ? height : r.get(r.size() - 1)[2];
            if (at == to) {
                return r;
            }
            for (int c = 0; c < s.claimTopic.size() && at > 0; c++) {
                for (int by = 0; by < 4 && Math.abs(s.claimTopic.get(c) + 1 - at) < 2; by++) {
                    int end = end(c, by);
                    if (!seen[end] && (by == 0 || !s.stands(c))) {
                        seen[end] = true;
                        List<int[]> longer = new ArrayList<>(r);
                        longer.add(new int[] {c, by, end});
                        rows.add(longer);
                    }
                }
            }
        }
        return null;
    }

    int way(int height, int to) {
        if (wrong(2, !isHeight(height) || !isHeight(to), 5, height == 0) || wrong(8, row(height, to) == null)) {
            return -1;
        }
        return row(height, to).size();
    }

    int wayAt(int height, int to, int k, int what) {
        if (wrong(2, !isHeight(height) || !isHeight(to), 5, height == 0 || what < 0 || what > 2)) {
            return -1;
        }
        List<int[]> r = row(height, to);
        if (wrong(8, r == null || k < 0 || k >= r.size())) {
            return -1;
        }
        return r.get(k)[what];
    }

    private int couples(int height, int claim) {
        int sum = 0;
        for (int by = 0; by < 4; by++) {
            sum += !s.stands(claim) && end(claim, by) == height ? 1 : 0;
        }
        return sum;
    }

    int from(int height) {
        if (wrong(2, !isHeight(height))) {
            return -1;
        }
        int sum = 0;
        for (int c = 0; c < s.claimTopic.size(); c++) {
            sum += couples(height, c);
        }
        return sum;
    }

    boolean oddsThat(int height, int claim) {
        if (wrong(2, !isHeight(height) || !isClaim(claim)) || wrong(8, from(height) == 0)) {
            return false;
        }
        return tell(couples(height, claim), from(height));
    }

    private int landsBy(int slope, int shift, int height) {
        return (int) Math.max(0, height - Math.floor((slope * height + shift) / 4.0));
    }

    private List<int[]> fitting(int tray, int n) {
        List<int[]> all = new ArrayList<>();
        for (int slope = 0; slope < 4; slope++) {
            for (int shift = 0; shift < 8; shift++) {
                boolean fits = true;
                for (int i = 0; i < n; i++) {
                    fits &= landsBy(slope, shift, (int) trays[tray][2 * i]) == trays[tray][2 * i + 1];
                }
                if (fits) {
                    all.add(new int[] {slope, shift});
                }
            }
        }
        return all;
    }

    private boolean wrongLaw(int tray, int n, boolean what) {
        if (wrong(1, noTray(tray)) || wrong(3, trays[tray] == null) || wrong(4, 2L * n > trays[tray].length, 5, n < 0 || n > 20 || what)) {
            return true;
        }
        boolean bad = false;
        for (int i = 0; i < n; i++) {
            long a = trays[tray][2 * i];
            long b = trays[tray][2 * i + 1];
            bad |= a < 1 || a > 9 || b < 0 || b > 9;
        }
        return wrong(5, bad);
    }

    int laws(int tray, int n) {
        return wrongLaw(tray, n, false) ? -1 : fitting(tray, n).size();
    }

    int lawOf(int tray, int n, int what) {
        if (wrongLaw(tray, n, what < 0 || what > 1) || wrong(8, fitting(tray, n).isEmpty())) {
            return -1;
        }
        return fitting(tray, n).get(0)[what];
    }

    int ask(int tray, int n) {
        if (wrongLaw(tray, n, false) || wrong(8, fitting(tray, n).size() < 2)) {
            return -1;
        }
        int best = 0;
        int fewest = 99;
        for (int h = 9; h >= 1; h--) {
            int[] at = new int[10];
            int most = 0;
            for (int[] law : fitting(tray, n)) {
                most = Math.max(most, ++at[landsBy(law[0], law[1], h)]);
            }
            if (most <= fewest) {
                fewest = most;
                best = h;
            }
        }
        return best;
    }

    /** By 16 to the 20th below. */
    private BigInteger pulling(int talker, int h) {
        return BigInteger.valueOf(s.worthOf(s.lands(h))).multiply(BigInteger.valueOf(16 - s.fails.get(talker))).shiftLeft(76);
    }

    private BigInteger waiting(int talker, int h) {
        return h == 1 ? BigInteger.ZERO : most(talker, h - 1).multiply(BigInteger.valueOf(16 - s.odds)).shiftRight(4);
    }

    private BigInteger most(int talker, int h) {
        return pulling(talker, h).max(waiting(talker, h));
    }

    boolean best(int talker, int height) {
        if (wrong(2, !isTalker(talker) || !isHeight(height), 5, height == 0)) {
            return false;
        }
        return tell(most(talker, height), BigInteger.ONE.shiftLeft(80));
    }

    int bestAt(int talker, int height) {
        if (wrong(2, !isTalker(talker) || !isHeight(height), 5, height == 0)) {
            return -1;
        }
        int at = height;
        while (pulling(talker, at).compareTo(waiting(talker, at)) < 0) {
            at--;
        }
        return at;
    }

    private int feudsOn(int[] topics) {
        int sum = 0;
        for (int[] f : s.feuds) {
            sum += topics[f[0]] == topics[f[1]] ? 1 : 0;
        }
        return sum;
    }

    /** All ways, counted up like numbers by k, the first talker the highest. */
    private int[] bestTopics(int k) {
        int n = s.seat.size();
        int[] best = null;
        int all = (int) Math.round(Math.pow(k, n));
        for (int number = 0; number < all; number++) {
            int[] topics = new int[n];
            for (int i = n - 1, rest = number; i >= 0; i--, rest /= k) {
                topics[i] = rest % k;
            }
            if (best == null || feudsOn(topics) < feudsOn(best)) {
                best = topics;
            }
        }
        return best;
    }

    int peace() {
        status = 0;
        int k = s.seat.isEmpty() ? 0 : 1;
        while (k > 0 && feudsOn(bestTopics(k)) > 0) {
            k++;
        }
        return k;
    }

    int quarrels(int topics) {
        return wrong(5, topics < 1 || topics > 4) ? -1 : feudsOn(bestTopics(topics));
    }

    int spread(int topics, int talker) {
        return wrong(2, !isTalker(talker), 5, topics < 1 || topics > 4) ? -1 : bestTopics(topics)[talker];
    }

    private int beside(List<Integer> row) {
        int sum = 0;
        int n = row.size();
        for (int[] f : s.feuds) {
            int apart = Math.abs(row.indexOf(f[0]) - row.indexOf(f[1]));
            sum += apart == 1 || apart == n - 1 ? 1 : 0;
        }
        return sum;
    }

    private List<Integer> bestSeats(List<Integer> row) {
        if (row.size() == s.seat.size()) {
            return new ArrayList<>(row);
        }
        List<Integer> best = null;
        for (int t = 0; t < s.seat.size(); t++) {
            if (!row.contains(t)) {
                row.add(t);
                List<Integer> found = bestSeats(row);
                row.remove(row.size() - 1);
                if (best == null || beside(found) < beside(best)) {
                    best = found;
                }
            }
        }
        return best;
    }

    int seating() {
        status = 0;
        return beside(bestSeats(new ArrayList<>()));
    }

    int seatOf(int seat) {
        return wrong(2, !isTalker(seat)) ? -1 : bestSeats(new ArrayList<>()).get(seat);
    }

    /** Both play on one table, as it is: who is first has the most, the other one the least. */
    private int value(State t, int first, int second, int turns, boolean firsts) {
        if (turns == 0) {
            return t.worthOf(t.height.get(first)) - t.worthOf(t.height.get(second));
        }
        int best = value(t, first, second, turns - 1, !firsts);
        int who = firsts ? first : second;
        for (int c = 0; c < t.claimTopic.size(); c++) {
            if (t.stands(c) && t.canSay(who, c)) {
                State u = t.copy();
                u.say(who, c);
                int v = value(u, first, second, turns - 1, !firsts);
                best = firsts ? Math.max(best, v) : Math.min(best, v);
            }
        }
        return best;
    }

    int game(int talker, int other, int turns) {
        if (wrong(2, !isTalker(talker) || !isTalker(other), 5, talker == other || turns < 0 || turns > 4)) {
            return -1;
        }
        return value(s, talker, other, turns, true);
    }

    int moveOf(int talker, int other, int turns) {
        if (wrong(2, !isTalker(talker) || !isTalker(other), 5, talker == other || turns < 1 || turns > 4)) {
            return -1;
        }
        int best = value(s, talker, other, turns, true);
        for (int c = 0; c < s.claimTopic.size(); c++) {
            if (s.stands(c) && s.canSay(talker, c)) {
                State u = s.copy();
                u.say(talker, c);
                if (value(u, talker, other, turns - 1, false) == best) {
                    return c;
                }
            }
        }
        status = 8;
        return -1;
    }

    boolean chutes(int k) {
        if (wrong(5, k < 0 || k > 6)) {
            return false;
        }
        long sum = 0;
        int n = s.seat.size();
        for (int set = 0; set < 1 << n; set++) {
            long odds = Integer.bitCount(set) >= k ? 1 : 0;
            for (int t = 0; t < n; t++) {
                odds *= (set & 1 << t) != 0 ? 16 - s.fails.get(t) : s.fails.get(t);
            }
            sum += odds;
        }
        return tell(sum, 1L << 4 * n);
    }

    private static final class Over extends RuntimeException {
        private static final long serialVersionUID = 1L;
    }

    private long draw;
    private int done;
    private int[] told;

    private int drawBy(int n) {
        draw = (draw * 2971 + 10979) % 65536;
        return (int) (draw / 8 % n);
    }

    private void miss() {
        told[0]++;
    }

    private void saying(State t, int talker, int claim) {
        if (t.canSay(talker, claim)) {
            t.say(talker, claim);
            told[1]++;
            told[2] += t.falls.get(talker) ? 1 : 0;
        } else {
            miss();
        }
    }

    private void pulling(State t, int talker) {
        if (t.falls.get(talker)) {
            t.pull(talker, !(drawBy(16) < t.fails.get(talker)));
            told[3]++;
        } else {
            miss();
        }
    }

    private void go(State t, List<ModelTexts.Step> row) {
        for (ModelTexts.Step p : row) {
            if (done == 300) {
                told[4] = 1;
                throw new Over();
            }
            done++;
            one(t, p);
        }
    }

    private void one(State t, ModelTexts.Step p) {
        switch (p.act) {
            case "say":
                saying(t, p.one, p.two);
                break;
            case "drop":
                if (t.falls.get(p.one)) {
                    t.drop(p.one, p.two);
                } else {
                    miss();
                }
                break;
            case "pull":
                pulling(t, p.one);
                break;
            case "prop":
            case "cut":
                if (t.propped.get(p.one) == p.act.equals("prop")) {
                    miss();
                }
                t.propped.set(p.one, p.act.equals("prop"));
                break;
            case "any":
                if (t.seat.isEmpty() || t.claimTopic.isEmpty()) {
                    miss();
                    break;
                }
                int talker = drawBy(t.seat.size());
                int claim = drawBy(t.claimTopic.size());
                if (t.falls.get(talker)) {
                    pulling(t, talker);
                } else {
                    saying(t, talker, claim);
                }
                break;
            case "loop":
                for (int i = 0; i < p.two; i++) {
                    go(t, p.body);
                }
                break;
            case "when":
                if (holds(t, p)) {
                    go(t, p.body);
                }
                break;
            default:
                throw new Over();
        }
    }

    private boolean holds(State t, ModelTexts.Step p) {
        switch (p.test) {
            case "stands": return t.stands(p.one);
            case "falls": return t.falls.get(p.one);
            case "<": return t.height.get(p.one) < p.two;
            case ">": return t.height.get(p.one) > p.two;
            default: return t.height.get(p.one) == p.two;
        }
    }

    private int[] evening(State t, int seed) {
        draw = seed;
        done = 0;
        told = new int[5];
        try {
            go(t, t.evenings);
        } catch (Over o) {
            return told;
        }
        return told;
    }

    int live(int seed) {
        if (wrong(5, seed < 0 || seed > 9999, 8, s.evenings == null)) {
            return -1;
        }
        lived = evening(s, seed);
        return done;
    }

    int lived(int what) {
        return wrong(5, what < 0 || what > 4, 8, lived == null) ? -1 : lived[what];
    }

    boolean mean(int seed, int many) {
        if (wrong(5, seed < 0 || many < 1 || many > 20 || (long) seed + many - 1 > 9999, 8, s.evenings == null)) {
            return false;
        }
        long sum = 0;
        for (int i = 0; i < many; i++) {
            State t = s.copy();
            evening(t, seed + i);
            for (int h : t.height) {
                sum += h;
            }
        }
        return tell(sum, many);
    }

    int mark() {
        if (wrong(7, marks.size() == 3)) {
            return -1;
        }
        marks.push(s.copy());
        return marks.size();
    }

    int back() {
        if (wrong(8, marks.isEmpty())) {
            return -1;
        }
        s = marks.pop();
        return marks.size();
    }
}
