public final class TalkChutes {
    public static final int NONE = -1;

    private static final int NO_SUCH_TRAY = 1;
    private static final int NO_SUCH_THING = 2;
    private static final int TRAY_MISSING = 3;
    private static final int NO_SUCH_PLACE = 4;
    private static final int NO_SUCH_NUMBER = 5;
    private static final int BELOW_ZERO = 6;
    private static final int ONE_TOO_MANY = 7;
    private static final int THERE_IS_NONE = 8;
    private static final int IT_CANNOT_BE = 9;
    private static final int A_FAULT = 10;
    private static final int UNLIKE_SORTS = 11;

    private static final int MOST_TRAYS = 4;
    private static final int MOST_BYTES = 900;
    private static final int MOST_EVENINGS_BYTES = 300;
    private static final int MOST_MARKS = 3;
    private static final int MOST_SEED = 9999;
    private static final int MOST_SEEDS = 20;
    private static final int MOST_LANDINGS = 20;
    private static final int SLOPES = 4;
    private static final int SHIFTS = 8;

    private int status;
    private long fractionTop;
    private long fractionBottom;
    private final Tray[] trays;
    private final byte[] tape;
    private int taped;
    private final TableReader tableReader;
    private final EveningsReader eveningsReader;
    private int faultKind;
    private int faultPlace;
    private final State now;
    private final State spare;
    private final State[] marks;
    private int marked;
    private final Evening latest;
    private final Evening trial;
    private boolean anyLived;
    private final Ways ways;
    private final Feuds feuds;
    private final Reckoner reckoner;

    public TalkChutes() {
        trays = new Tray[MOST_TRAYS];
        for (int i = 0; i < MOST_TRAYS; i++) {
            trays[i] = new Tray();
        }
        tape = new byte[MOST_BYTES];
        tableReader = new TableReader(tape);
        eveningsReader = new EveningsReader(tape);
        now = new State();
        spare = new State();
        marks = new State[MOST_MARKS];
        for (int i = 0; i < MOST_MARKS; i++) {
            marks[i] = new State();
        }
        latest = new Evening();
        trial = new Evening();
        ways = new Ways();
        feuds = new Feuds();
        reckoner = new Reckoner();
        fractionBottom = 1;
        faultKind = NONE;
        faultPlace = NONE;
    }

    public int status() {
        return status;
    }

    public long top() {
        return fractionTop;
    }

    public long bottom() {
        return fractionBottom;
    }

    // ---- TRAYS

    public boolean tray(int tray, int sort, int many) {
        if (!isTray(tray) || sort < 0 || sort > 3) {
            return deny(NO_SUCH_TRAY);
        }
        if (many > Tray.MOST) {
            return deny(NO_SUCH_NUMBER);
        }
        if (many < 0) {
            return deny(BELOW_ZERO);
        }
        trays[tray].begin(sort, many);
        return grant();
    }

    public boolean write(int tray, int place, long v) {
        int wrong = placeStatus(tray, place);
        if (wrong != 0) {
            return deny(wrong);
        }
        trays[tray].put(place, v);
        return grant();
    }

    public long read(int tray, int place) {
        int wrong = placeStatus(tray, place);
        if (wrong != 0) {
            return refuse(wrong);
        }
        status = 0;
        return trays[tray].numbers[place];
    }

    public boolean pour(int tray, int i, int to, int j, int many) {
        if (!isTray(tray) || !isTray(to)) {
            return deny(NO_SUCH_TRAY);
        }
        Tray source = trays[tray];
        Tray target = trays[to];
        if (source.isMissing() || target.isMissing()) {
            return deny(TRAY_MISSING);
        }
        if (source.sort != target.sort) {
            return deny(UNLIKE_SORTS);
        }
        if (many < 0) {
            return deny(BELOW_ZERO);
        }
        if (!source.holds(i, many) || !target.holds(j, many)) {
            return deny(NO_SUCH_PLACE);
        }
        System.arraycopy(source.numbers, i, target.numbers, j, many);
        return grant();
    }

    // ---- texts

    public int feed(int a, int b, int c, int d, int e) {
        if (taped + 20 > MOST_BYTES) {
            return NONE;
        }
        putOnTape(a);
        putOnTape(b);
        putOnTape(c);
        putOnTape(d);
        putOnTape(e);
        return taped;
    }

    public int table(int n) {
        if (n < 0 || n > taped) {
            return refuse(NO_SUCH_NUMBER);
        }
        taped = 0;
        boolean taken = tableReader.readTable(n, spare.table);
        keepFault(tableReader);
        if (!taken) {
            return refuse(A_FAULT);
        }
        now.table.copyFrom(spare.table);
        now.evenings.clear();
        return answer(now.table.talkers);
    }

    public int evenings(int n) {
        if (n < 0 || n > taped || n > MOST_EVENINGS_BYTES) {
            return refuse(NO_SUCH_NUMBER);
        }
        taped = 0;
        boolean taken = eveningsReader.readEvenings(n, now.table, spare.evenings);
        keepFault(eveningsReader);
        if (!taken) {
            return refuse(A_FAULT);
        }
        now.evenings.copyFrom(spare.evenings);
        return answer(now.evenings.steps);
    }

    public int fault(int what) {
        if (what == 0) {
            return faultKind;
        }
        return what == 1 ? faultPlace : NONE;
    }

    public int many(int what) {
        Table table = now.table;
        switch (what) {
            case 0: return answer(table.topics);
            case 1: return answer(table.claims);
            case 2: return answer(table.talkers);
            case 3: return answer(table.feuds);
            case 4: return answer(table.odds);
            case 5: return answer(table.said);
            case 6: return answer(table.standing());
            case 7: return answer(table.propped);
            case 8: return answer(table.falling);
            case 9: return answer(table.talkersAt(0));
            default: return refuse(NO_SUCH_NUMBER);
        }
    }

    public int topic(int topic, int what) {
        Table table = now.table;
        if (!table.isTopic(topic)) {
            return refuse(NO_SUCH_THING);
        }
        switch (what) {
            case 0: return answer(table.worth[topic]);
            case 1: return answer(table.drift[topic]);
            case 2: return answer(table.claimsAt(topic));
            case 3: return answer(table.talkersAt(topic + 1));
            default: return refuse(NO_SUCH_NUMBER);
        }
    }

    public int claim(int claim, int what) {
        Table table = now.table;
        if (!table.isClaim(claim)) {
            return refuse(NO_SUCH_THING);
        }
        switch (what) {
            case 0: return answer(table.topicOf[claim]);
            case 1: return answer(table.needs[claim]);
            case 2: return answer(table.propped >> claim & 1);
            case 3: return answer(table.standing() >> claim & 1);
            default: return refuse(NO_SUCH_NUMBER);
        }
    }

    public int talker(int talker, int what) {
        Table table = now.table;
        if (!table.isTalker(talker)) {
            return refuse(NO_SUCH_THING);
        }
        switch (what) {
            case 0: return answer(table.seat[talker]);
            case 1: return answer(table.height[talker]);
            case 2: return answer(table.falling >> talker & 1);
            case 3: return answer(table.fails[talker]);
            case 4: return answer(table.sayable(talker));
            default: return refuse(NO_SUCH_NUMBER);
        }
    }

    public int feud(int feud, int what) {
        Table table = now.table;
        if (feud < 0 || feud >= table.feuds) {
            return refuse(NO_SUCH_THING);
        }
        switch (what) {
            case 0: return answer(table.one[feud]);
            case 1: return answer(table.other[feud]);
            default: return refuse(NO_SUCH_NUMBER);
        }
    }

    public int copyHeights(int tray) {
        if (!isTray(tray)) {
            return refuse(NO_SUCH_TRAY);
        }
        Tray target = trays[tray];
        if (target.isMissing()) {
            return refuse(TRAY_MISSING);
        }
        int talkers = now.table.talkers;
        if (talkers > target.length) {
            return refuse(NO_SUCH_PLACE);
        }
        for (int i = 0; i < talkers; i++) {
            target.put(i, now.table.height[i]);
        }
        return answer(talkers);
    }

    // ---- what is done

    public int say(int talker, int claim) {
        Table table = now.table;
        if (!table.isTalker(talker) || !table.isClaim(claim)) {
            return refuse(NO_SUCH_THING);
        }
        if ((table.sayable(talker) >> claim & 1) == 0) {
            return refuse(IT_CANNOT_BE);
        }
        table.letSay(talker, claim);
        return answer(table.height[talker]);
    }

    public int drop(int talker, int by) {
        Table table = now.table;
        if (!table.isTalker(talker)) {
            return refuse(NO_SUCH_THING);
        }
        if (by < 1 || by > 9) {
            return refuse(NO_SUCH_NUMBER);
        }
        if (!table.isFalling(talker)) {
            return refuse(IT_CANNOT_BE);
        }
        table.letDrop(talker, by);
        return answer(table.height[talker]);
    }

    public int pull(int talker, boolean holds) {
        Table table = now.table;
        if (!table.isTalker(talker)) {
            return refuse(NO_SUCH_THING);
        }
        if (!table.isFalling(talker)) {
            return refuse(IT_CANNOT_BE);
        }
        table.letPull(talker, holds);
        return answer(table.height[talker]);
    }

    public int prop(int claim) {
        Table table = now.table;
        if (!table.isClaim(claim)) {
            return refuse(NO_SUCH_THING);
        }
        if (table.isPropped(claim)) {
            return refuse(IT_CANNOT_BE);
        }
        table.propped |= 1 << claim;
        return answer(Integer.bitCount(table.standing()));
    }

    public int cut(int claim) {
        Table table = now.table;
        if (!table.isClaim(claim)) {
            return refuse(NO_SUCH_THING);
        }
        if (!table.isPropped(claim)) {
            return refuse(IT_CANNOT_BE);
        }
        table.propped &= ~(1 << claim);
        return answer(Integer.bitCount(table.standing()));
    }

    public int lift(int talker, int height) {
        Table table = now.table;
        if (!table.isTalker(talker) || !table.isHeight(height)) {
            return refuse(NO_SUCH_THING);
        }
        if (height == 0) {
            return refuse(NO_SUCH_NUMBER);
        }
        int before = table.height[talker];
        table.height[talker] = height;
        table.falling &= ~(1 << talker);
        return answer(before);
    }

    public int rewrite(int topic, int what, int much) {
        Table table = now.table;
        if (!table.isTopic(topic)) {
            return refuse(NO_SUCH_THING);
        }
        if (what < 0 || what > 1 || much < 0) {
            return refuse(NO_SUCH_NUMBER);
        }
        if (much > (what == 0 ? Table.MOST_WORTH : Table.MOST_DRIFT)) {
            return refuse(NO_SUCH_NUMBER);
        }
        int[] row = what == 0 ? table.worth : table.drift;
        int before = row[topic];
        row[topic] = much;
        return answer(before);
    }

    public int think(int topic, int needs) {
        Table table = now.table;
        if (!table.isTopic(topic)) {
            return refuse(NO_SUCH_THING);
        }
        if (needs < 0 || needs >= 1 << table.claims) {
            return refuse(NO_SUCH_NUMBER);
        }
        if (table.claims == Table.MOST_CLAIMS) {
            return refuse(ONE_TOO_MANY);
        }
        table.addClaim(topic, needs, Table.NO_NAME);
        return answer(table.claims - 1);
    }

    public int anger(int talker, int other) {
        Table table = now.table;
        if (!table.isTalker(talker) || !table.isTalker(other)) {
            return refuse(NO_SUCH_THING);
        }
        if (talker == other) {
            return refuse(NO_SUCH_NUMBER);
        }
        if (table.feuds == Table.MOST_FEUDS) {
            return refuse(ONE_TOO_MANY);
        }
        if (table.isFeud(talker, other)) {
            return refuse(IT_CANNOT_BE);
        }
        table.addFeud(talker, other);
        return answer(table.feuds - 1);
    }

    public boolean rule(int odds) {
        if (odds < 0 || odds > 16) {
            return deny(NO_SUCH_NUMBER);
        }
        now.table.odds = odds;
        return grant();
    }

    // ---- what bears what

    public int holdsUp(int claim) {
        if (!now.table.isClaim(claim)) {
            return refuse(NO_SUCH_THING);
        }
        return answer(Integer.bitCount(now.table.fewestProps(claim)));
    }

    public int holdsUpSet(int claim) {
        if (!now.table.isClaim(claim)) {
            return refuse(NO_SUCH_THING);
        }
        return answer(now.table.fewestProps(claim));
    }

    public int bringsDown(int claim) {
        Table table = now.table;
        if (!table.isClaim(claim)) {
            return refuse(NO_SUCH_THING);
        }
        int standing = table.standing();
        if ((standing >> claim & 1) == 0) {
            return refuse(IT_CANNOT_BE);
        }
        return answer(standing & ~table.standingBy(table.propped, claim));
    }

    // ---- ways

    public int way(int height, int to) {
        int wrong = wayStatus(height, to);
        if (wrong != 0) {
            return refuse(wrong);
        }
        int steps = ways.sayingsTo(now.table, height, to);
        return steps == NONE ? refuse(THERE_IS_NONE) : answer(steps);
    }

    public int wayAt(int height, int to, int k, int what) {
        int wrong = wayStatus(height, to);
        if (wrong != 0) {
            return refuse(wrong);
        }
        if (what < 0 || what > 2) {
            return refuse(NO_SUCH_NUMBER);
        }
        int steps = ways.sayingsTo(now.table, height, to);
        if (k < 0 || k >= steps) {
            return refuse(THERE_IS_NONE);
        }
        return answer(ways.tellSaying(height, k, what));
    }

    public int from(int height) {
        if (!now.table.isHeight(height)) {
            return refuse(NO_SUCH_THING);
        }
        ways.findEnds(now.table);
        return answer(ways.couples(height));
    }

    public boolean oddsThat(int height, int claim) {
        if (!now.table.isHeight(height) || !now.table.isClaim(claim)) {
            return deny(NO_SUCH_THING);
        }
        ways.findEnds(now.table);
        int all = ways.couples(height);
        if (all == 0) {
            return deny(THERE_IS_NONE);
        }
        return tell(ways.couplesOf(height, claim), all);
    }

    // ---- laws

    public int laws(int tray, int n) {
        int wrong = lawStatus(tray, n);
        if (wrong != 0) {
            return refuse(wrong);
        }
        return answer(Integer.bitCount(fittingLaws(trays[tray], n)));
    }

    public int lawOf(int tray, int n, int what) {
        int wrong = lawStatus(tray, n);
        if (wrong != 0) {
            return refuse(wrong);
        }
        if (what < 0 || what > 1) {
            return refuse(NO_SUCH_NUMBER);
        }
        int fitting = fittingLaws(trays[tray], n);
        for (int law = 0; law < SLOPES * SHIFTS; law++) {
            if ((fitting >> law & 1) != 0) {
                return answer(what == 0 ? law / SHIFTS : law % SHIFTS);
            }
        }
        return refuse(THERE_IS_NONE);
    }

    public int ask(int tray, int n) {
        int wrong = lawStatus(tray, n);
        if (wrong != 0) {
            return refuse(wrong);
        }
        int fitting = fittingLaws(trays[tray], n);
        if (Integer.bitCount(fitting) < 2) {
            return refuse(THERE_IS_NONE);
        }
        int best = 1;
        int fewest = mostAtOne(fitting, 1);
        for (int height = 2; height <= 9; height++) {
            int most = mostAtOne(fitting, height);
            if (most < fewest) {
                fewest = most;
                best = height;
            }
        }
        return answer(best);
    }

    // ---- when to pull

    public boolean best(int talker, int height) {
        int wrong = fallStatus(talker, height);
        if (wrong != 0) {
            return deny(wrong);
        }
        reckoner.weigh(now.table, talker);
        return tell(reckoner.most[height], 1L << 4 * height);
    }

    public int bestAt(int talker, int height) {
        int wrong = fallStatus(talker, height);
        if (wrong != 0) {
            return refuse(wrong);
        }
        reckoner.weigh(now.table, talker);
        return answer(reckoner.firstPull(height));
    }

    // ---- feuds

    public int peace() {
        feuds.begin(now.table);
        return answer(feuds.topicsForPeace());
    }

    public int quarrels(int topics) {
        if (topics < 1 || topics > 4) {
            return refuse(NO_SUCH_NUMBER);
        }
        feuds.begin(now.table);
        return answer(feuds.fewestOn(topics));
    }

    public int spread(int topics, int talker) {
        if (!now.table.isTalker(talker)) {
            return refuse(NO_SUCH_THING);
        }
        if (topics < 1 || topics > 4) {
            return refuse(NO_SUCH_NUMBER);
        }
        feuds.begin(now.table);
        feuds.fewestOn(topics);
        return answer(feuds.bestRow[talker]);
    }

    public int seating() {
        feuds.begin(now.table);
        return answer(feuds.fewestBeside());
    }

    public int seatOf(int seat) {
        if (!now.table.isTalker(seat)) {
            return refuse(NO_SUCH_THING);
        }
        feuds.begin(now.table);
        feuds.fewestBeside();
        return answer(feuds.bestRow[seat]);
    }

    // ---- games, odds

    public int game(int talker, int other, int turns) {
        int wrong = gameStatus(talker, other, turns);
        if (wrong != 0) {
            return refuse(wrong);
        }
        // What one says changes nothing for the other: each plays for his own
        // TOPIC alone, so the turns of the two can be taken apart.
        ways.beginGame(now.table);
        int own = ways.mostWorth(talker, (turns + 1) / 2);
        return answer(own - ways.mostWorth(other, turns / 2));
    }

    public int moveOf(int talker, int other, int turns) {
        int wrong = gameStatus(talker, other, turns);
        if (wrong != 0) {
            return refuse(wrong);
        }
        if (turns == 0) {
            return refuse(NO_SUCH_NUMBER);
        }
        ways.beginGame(now.table);
        int move = ways.firstMove(talker, (turns + 1) / 2);
        return move == NONE ? refuse(THERE_IS_NONE) : answer(move);
    }

    public boolean chutes(int k) {
        if (k < 0 || k > Table.MOST_TALKERS) {
            return deny(NO_SUCH_NUMBER);
        }
        return tell(reckoner.holding(now.table, k), 1L << 4 * now.table.talkers);
    }

    // ---- EVENINGS

    public int live(int seed) {
        if (seed < 0 || seed > MOST_SEED) {
            return refuse(NO_SUCH_NUMBER);
        }
        if (!now.evenings.there) {
            return refuse(THERE_IS_NONE);
        }
        latest.run(now.table, now.evenings, seed);
        anyLived = true;
        return answer(latest.steps);
    }

    public int lived(int what) {
        if (what < 0 || what > 4) {
            return refuse(NO_SUCH_NUMBER);
        }
        if (!anyLived) {
            return refuse(THERE_IS_NONE);
        }
        switch (what) {
            case 0: return answer(latest.missed);
            case 1: return answer(latest.said);
            case 2: return answer(latest.fell);
            case 3: return answer(latest.pulls);
            default: return answer(latest.left);
        }
    }

    public boolean mean(int seed, int many) {
        if (seed < 0 || many < 1 || many > MOST_SEEDS || seed > MOST_SEED - many + 1) {
            return deny(NO_SUCH_NUMBER);
        }
        if (!now.evenings.there) {
            return deny(THERE_IS_NONE);
        }
        int heights = 0;
        for (int i = 0; i < many; i++) {
            spare.table.copyFrom(now.table);
            trial.run(spare.table, now.evenings, seed + i);
            heights += spare.table.allHeights();
        }
        return tell(heights, many);
    }

    // ---- MARKS

    public int mark() {
        if (marked == MOST_MARKS) {
            return refuse(ONE_TOO_MANY);
        }
        marks[marked].copyFrom(now);
        marked++;
        return answer(marked);
    }

    public int back() {
        if (marked == 0) {
            return refuse(THERE_IS_NONE);
        }
        marked--;
        now.copyFrom(marks[marked]);
        return answer(marked);
    }

    private int refuse(int code) {
        status = code;
        return NONE;
    }

    private int answer(int value) {
        status = 0;
        return value;
    }

    private boolean deny(int code) {
        status = code;
        return false;
    }

    private boolean grant() {
        status = 0;
        return true;
    }

    private boolean tell(long above, long below) {
        long divisor = commonDivisor(above, below);
        if (divisor > 0) {
            fractionTop = above / divisor;
            fractionBottom = below / divisor;
        }
        return grant();
    }

    private static long commonDivisor(long a, long b) {
        long large = a;
        long small = b;
        for (int i = 0; i < 200 && small != 0; i++) {
            long rest = large % small;
            large = small;
            small = rest;
        }
        return large;
    }

    private static boolean isTray(int tray) {
        return tray >= 0 && tray < MOST_TRAYS;
    }

    private int placeStatus(int tray, int place) {
        if (!isTray(tray)) {
            return NO_SUCH_TRAY;
        }
        if (trays[tray].isMissing()) {
            return TRAY_MISSING;
        }
        return trays[tray].holds(place, 1) ? 0 : NO_SUCH_PLACE;
    }

    private void putOnTape(int v) {
        for (int shift = 24; shift >= 0; shift -= 8) {
            tape[taped] = (byte) (v >> shift);
            taped++;
        }
    }

    private void keepFault(Reader reader) {
        faultKind = reader.fault;
        faultPlace = reader.faultPlace;
    }

    private int wayStatus(int height, int to) {
        if (!now.table.isHeight(height) || !now.table.isHeight(to)) {
            return NO_SUCH_THING;
        }
        return height == 0 ? NO_SUCH_NUMBER : 0;
    }

    private int fallStatus(int talker, int height) {
        if (!now.table.isTalker(talker) || !now.table.isHeight(height)) {
            return NO_SUCH_THING;
        }
        return height == 0 ? NO_SUCH_NUMBER : 0;
    }

    private int gameStatus(int talker, int other, int turns) {
        if (!now.table.isTalker(talker) || !now.table.isTalker(other)) {
            return NO_SUCH_THING;
        }
        return talker == other || turns < 0 || turns > 4 ? NO_SUCH_NUMBER : 0;
    }

    private int lawStatus(int tray, int n) {
        if (!isTray(tray)) {
            return NO_SUCH_TRAY;
        }
        Tray row = trays[tray];
        if (row.isMissing()) {
            return TRAY_MISSING;
        }
        if (n > row.length / 2) {
            return NO_SUCH_PLACE;
        }
        if (n < 0 || n > MOST_LANDINGS) {
            return NO_SUCH_NUMBER;
        }
        for (int i = 0; i < n; i++) {
            long pulledAt = row.numbers[2 * i];
            long landedAt = row.numbers[2 * i + 1];
            if (pulledAt < 1 || pulledAt > 9 || landedAt < 0 || landedAt > 9) {
                return NO_SUCH_NUMBER;
            }
        }
        return 0;
    }

    /** A law is the number SLOPE times 8 and SHIFT together: a set of laws fills an int. */
    private static int fittingLaws(Tray row, int n) {
        int fitting = 0;
        for (int law = 0; law < SLOPES * SHIFTS; law++) {
            boolean fits = true;
            for (int i = 0; i < n && fits; i++) {
                fits = landsBy(law, (int) row.numbers[2 * i]) == row.numbers[2 * i + 1];
            }
            if (fits) {
                fitting |= 1 << law;
            }
        }
        return fitting;
    }

    private static int landsBy(int law, int height) {
        int lower = (law / SHIFTS * height + law % SHIFTS) / 4;
        return Math.max(0, height - lower);
    }

    private static int mostAtOne(int laws, int height) {
        int most = 0;
        for (int landing = 0; landing <= height; landing++) {
            int here = 0;
            for (int law = 0; law < SLOPES * SHIFTS; law++) {
                if ((laws >> law & 1) != 0 && landsBy(law, height) == landing) {
                    here++;
                }
            }
            most = Math.max(most, here);
        }
        return most;
    }

    private static final class Tray {
        static final int MOST = 60;

        final long[] numbers = new long[MOST];
        int sort;
        int length = NONE;

        boolean isMissing() {
            return length == NONE;
        }

        boolean holds(int first, int count) {
            return first >= 0 && count <= length && first <= length - count;
        }

        void begin(int newSort, int newLength) {
            sort = newSort;
            length = newLength;
            for (int i = 0; i < newLength; i++) {
                numbers[i] = 0;
            }
        }

        void put(int place, long v) {
            switch (sort) {
                case 0: numbers[place] = (byte) v; break;
                case 1: numbers[place] = (short) v; break;
                case 2: numbers[place] = (int) v; break;
                default: numbers[place] = v; break;
            }
        }
    }

    /** What a MARK keeps. */
    private static final class State {
        final Table table = new Table();
        final Evenings evenings = new Evenings();

        void copyFrom(State from) {
            table.copyFrom(from.table);
            evenings.copyFrom(from.evenings);
        }
    }

    /** Sets of CLAIMS, of TALKERS are ints: 1 for the first, 2 for the second .. */
    private static final class Table {
        static final int MOST_TOPICS = 9;
        static final int MOST_CLAIMS = 8;
        static final int MOST_TALKERS = 6;
        static final int MOST_FEUDS = 10;
        static final int MOST_WORTH = 20;
        static final int MOST_DRIFT = 3;
        static final int FIRST_CLAIM_NAME = MOST_TOPICS;
        static final int FIRST_TALKER_NAME = MOST_TOPICS + MOST_CLAIMS;
        static final int MOST_NAMES = MOST_TOPICS + MOST_CLAIMS + MOST_TALKERS;
        static final long NO_NAME = 0;

        int odds = 4;
        int topics;
        final int[] worth = new int[MOST_TOPICS];
        final int[] drift = new int[MOST_TOPICS];
        int claims;
        final int[] topicOf = new int[MOST_CLAIMS];
        final int[] needs = new int[MOST_CLAIMS];
        int propped;
        int talkers;
        final int[] seat = new int[MOST_TALKERS];
        final int[] height = new int[MOST_TALKERS];
        final int[] fails = new int[MOST_TALKERS];
        int falling;
        int feuds;
        final int[] one = new int[MOST_FEUDS];
        final int[] other = new int[MOST_FEUDS];
        int said;
        final long[] names = new long[MOST_NAMES];

        void clear() {
            odds = 4;
            topics = 0;
            claims = 0;
            propped = 0;
            talkers = 0;
            falling = 0;
            feuds = 0;
            said = 0;
            for (int i = 0; i < MOST_NAMES; i++) {
                names[i] = NO_NAME;
            }
        }

        void copyFrom(Table from) {
            odds = from.odds;
            topics = from.topics;
            claims = from.claims;
            propped = from.propped;
            talkers = from.talkers;
            falling = from.falling;
            feuds = from.feuds;
            said = from.said;
            System.arraycopy(from.worth, 0, worth, 0, MOST_TOPICS);
            System.arraycopy(from.drift, 0, drift, 0, MOST_TOPICS);
            System.arraycopy(from.topicOf, 0, topicOf, 0, MOST_CLAIMS);
            System.arraycopy(from.needs, 0, needs, 0, MOST_CLAIMS);
            System.arraycopy(from.seat, 0, seat, 0, MOST_TALKERS);
            System.arraycopy(from.height, 0, height, 0, MOST_TALKERS);
            System.arraycopy(from.fails, 0, fails, 0, MOST_TALKERS);
            System.arraycopy(from.one, 0, one, 0, MOST_FEUDS);
            System.arraycopy(from.other, 0, other, 0, MOST_FEUDS);
            System.arraycopy(from.names, 0, names, 0, MOST_NAMES);
        }

        boolean isTopic(int number) {
            return number >= 0 && number < topics;
        }

        boolean isHeight(int number) {
            return number >= 0 && number <= topics;
        }

        boolean isClaim(int number) {
            return number >= 0 && number < claims;
        }

        boolean isTalker(int number) {
            return number >= 0 && number < talkers;
        }

        boolean isPropped(int claim) {
            return (propped >> claim & 1) != 0;
        }

        boolean isFalling(int talker) {
            return (falling >> talker & 1) != 0;
        }

        boolean isFeud(int talker, int foe) {
            for (int i = 0; i < feuds; i++) {
                if (one[i] == talker && other[i] == foe || one[i] == foe && other[i] == talker) {
                    return true;
                }
            }
            return false;
        }

        /** The callers look at how many there are already. */
        void addClaim(int topic, int needed, long name) {
            topicOf[claims] = topic;
            needs[claims] = needed;
            names[FIRST_CLAIM_NAME + claims] = name;
            claims++;
        }

        void addFeud(int talker, int foe) {
            one[feuds] = talker;
            other[feuds] = foe;
            feuds++;
        }

        int heightOf(int claim) {
            return topicOf[claim] + 1;
        }

        int worthAt(int at) {
            return at == 0 ? 0 : worth[at - 1];
        }

        /** Where a chute that holds sets one down. */
        int landing(int at) {
            return at == 0 ? 0 : Math.max(0, at - drift[at - 1]);
        }

        int claimsAt(int topic) {
            int set = 0;
            for (int i = 0; i < claims; i++) {
                if (topicOf[i] == topic) {
                    set |= 1 << i;
                }
            }
            return set;
        }

        int talkersAt(int at) {
            int set = 0;
            for (int i = 0; i < talkers; i++) {
                if (height[i] == at) {
                    set |= 1 << i;
                }
            }
            return set;
        }

        int allHeights() {
            int sum = 0;
            for (int i = 0; i < talkers; i++) {
                sum += height[i];
            }
            return sum;
        }

        int standing() {
            return standingBy(propped, NONE);
        }

        /** A CLAIM NEEDS only CLAIMS with lesser numbers, so one round is enough. */
        int standingBy(int props, int without) {
            int standing = 0;
            for (int i = 0; i < claims; i++) {
                boolean borne = needs[i] != 0 && (needs[i] & ~standing) == 0;
                if (i != without && ((props >> i & 1) != 0 || borne)) {
                    standing |= 1 << i;
                }
            }
            return standing;
        }

        /** To PROP the CLAIM itself is always enough, so no set has two. */
        int fewestProps(int claim) {
            if ((standing() >> claim & 1) != 0) {
                return 0;
            }
            for (int i = 0; i < claim; i++) {
                if ((standingBy(propped | 1 << i, NONE) >> claim & 1) != 0) {
                    return 1 << i;
                }
            }
            return 1 << claim;
        }

        boolean isNear(int claim, int at) {
            return Math.abs(heightOf(claim) - at) <= 1;
        }

        int sayable(int talker) {
            if (isFalling(talker) || height[talker] == 0) {
                return 0;
            }
            int set = 0;
            for (int i = 0; i < claims; i++) {
                if (isNear(i, height[talker])) {
                    set |= 1 << i;
                }
            }
            return set;
        }

        void letSay(int talker, int claim) {
            height[talker] = heightOf(claim);
            said++;
            if ((standing() >> claim & 1) == 0) {
                falling |= 1 << talker;
            }
        }

        void letDrop(int talker, int by) {
            height[talker] = Math.max(0, height[talker] - by);
            if (height[talker] == 0) {
                falling &= ~(1 << talker);
            }
        }

        void letPull(int talker, boolean holds) {
            height[talker] = holds ? landing(height[talker]) : 0;
            falling &= ~(1 << talker);
        }

        int findName(int first, int count, long name) {
            for (int i = 0; i < count; i++) {
                if (names[first + i] == name) {
                    return i;
                }
            }
            return NONE;
        }
    }

    /** EVENINGS as they were read: an end stands among the STEPS, though it is none. */
    private static final class Evenings {
        static final int MOST_STEPS = 30;
        static final int MOST_NESTED = 3;
        static final int MOST_ENTRIES = 2 * MOST_STEPS;

        boolean there;
        int steps;
        int length;
        final int[] act = new int[MOST_ENTRIES];
        final int[] one = new int[MOST_ENTRIES];
        final int[] two = new int[MOST_ENTRIES];
        /** Of a when: the WORD stands or falls, or the SIGN by which high compares. */
        final int[] test = new int[MOST_ENTRIES];
        /** Of a when, a loop: where its end is; of an end: where that began. */
        final int[] partner = new int[MOST_ENTRIES];

        void clear() {
            there = false;
            steps = 0;
            length = 0;
        }

        void copyFrom(Evenings from) {
            there = from.there;
            steps = from.steps;
            length = from.length;
            System.arraycopy(from.act, 0, act, 0, from.length);
            System.arraycopy(from.one, 0, one, 0, from.length);
            System.arraycopy(from.two, 0, two, 0, from.length);
            System.arraycopy(from.test, 0, test, 0, from.length);
            System.arraycopy(from.partner, 0, partner, 0, from.length);
        }
    }

    /** Goes through a text TOKEN by TOKEN; the first FAULT is kept. */
    private abstract static class Reader {
        static final int AT_END = 0;
        static final int IS_WORD = 1;
        static final int IS_NUMBER = 2;
        static final int IS_SIGN = 3;
        static final int IS_WRONG = 4;

        static final int OUT_OF_PLACE = 2;
        static final int WRONG_NAME = 3;
        static final int WRONG_NUMBER = 4;
        static final int TOLD_ALREADY = 5;
        static final int ONE_MORE = 6;
        static final int TOO_DEEP = 7;

        /** The WORDS that are no NAMES, each with a blank behind it, in the order of the numbers below. */
        static final String WORDS = "odds topic worth drift claim at propped needs talker seat on fails feud say drop pull prop cut any when stands falls high loop end stop ";
        static final int ODDS = 0;
        static final int TOPIC = 1;
        static final int WORTH = 2;
        static final int DRIFT = 3;
        static final int CLAIM = 4;
        static final int AT = 5;
        static final int PROPPED = 6;
        static final int NEEDS = 7;
        static final int TALKER = 8;
        static final int SEAT = 9;
        static final int ON = 10;
        static final int FAILS = 11;
        static final int FEUD = 12;
        static final int SAY = 13;
        static final int DROP = 14;
        static final int PULL = 15;
        static final int PROP = 16;
        static final int CUT = 17;
        static final int ANY = 18;
        static final int WHEN = 19;
        static final int STANDS = 20;
        static final int FALLS = 21;
        static final int HIGH = 22;
        static final int LOOP = 23;
        static final int END = 24;
        static final int STOP = 25;

        static final int MOST_DIGITS = 4;
        static final int MOST_LETTERS = 8;

        final byte[] text;
        int length;
        int next;
        int start;
        int kind;
        int number;
        int sign;
        int word;
        /** The letters, five bits each: a NAME is one number. */
        long name;
        int fault;
        int faultPlace;

        Reader(byte[] tape) {
            text = tape;
        }

        final void begin(int bytes) {
            length = Math.max(0, Math.min(bytes, text.length));
            next = 0;
            fault = 0;
            faultPlace = NONE;
            advance();
        }

        final void advance() {
            while (next < length && (text[next] == ' ' || text[next] == '\n')) {
                next++;
            }
            start = next;
            number = 0;
            word = NONE;
            name = 0;
            while (next < length && text[next] >= 'a' && text[next] <= 'z') {
                name = name * 32 + (text[next] - 'a' + 1);
                next++;
            }
            if (next > start) {
                kind = IS_WORD;
                word = wordNumber();
                return;
            }
            while (next < length && text[next] >= '0' && text[next] <= '9') {
                number = number * 10 + (text[next] - '0');
                next++;
            }
            if (next > start) {
                kind = next - start <= MOST_DIGITS ? IS_NUMBER : IS_WRONG;
                return;
            }
            readSign();
        }

        private void readSign() {
            if (next >= length) {
                kind = AT_END;
                return;
            }
            sign = text[next];
            kind = sign == ';' || sign == '<' || sign == '>' || sign == '=' ? IS_SIGN : IS_WRONG;
            next++;
        }

        private int wordNumber() {
            int words = 0;
            int at = start;
            boolean same = true;
            for (int i = 0; i < WORDS.length(); i++) {
                char letter = WORDS.charAt(i);
                if (letter != ' ') {
                    same = same && at < next && text[at] == letter;
                    at++;
                } else if (same && at == next) {
                    return words;
                } else {
                    words++;
                    at = start;
                    same = true;
                }
            }
            return NONE;
        }

        /** What is no TOKEN at all has the least kind of FAULT, whatever else is wrong there. */
        final boolean refuseHere(int faultKind) {
            fault = kind == IS_WRONG ? 1 : faultKind;
            faultPlace = start;
            return false;
        }

        final boolean passWord(int wanted) {
            if (word != wanted) {
                return refuseHere(OUT_OF_PLACE);
            }
            advance();
            return true;
        }

        final boolean passSemicolon() {
            if (kind != IS_SIGN || sign != ';') {
                return refuseHere(OUT_OF_PLACE);
            }
            advance();
            return true;
        }

        final boolean isName() {
            return kind == IS_WORD && word == NONE && next - start <= MOST_LETTERS;
        }

        final boolean isNumberHere(int least, int most) {
            if (kind != IS_NUMBER) {
                return refuseHere(OUT_OF_PLACE);
            }
            return number >= least && number <= most || refuseHere(WRONG_NUMBER);
        }

        /** The number of the thing that is named here; NONE, and a FAULT, if there is no such one. */
        final int numberNamed(Table table, int first, int count) {
            if (!isName()) {
                refuseHere(OUT_OF_PLACE);
                return NONE;
            }
            int found = table.findName(first, count, name);
            if (found == NONE) {
                refuseHere(WRONG_NAME);
            }
            return found;
        }

        final int topicNamed(Table table) {
            return numberNamed(table, 0, table.topics);
        }

        final int claimNamed(Table table) {
            return numberNamed(table, Table.FIRST_CLAIM_NAME, table.claims);
        }

        final int talkerNamed(Table table) {
            return numberNamed(table, Table.FIRST_TALKER_NAME, table.talkers);
        }
    }

    private static final class TableReader extends Reader {
        private Table into;
        private boolean oddsTold;

        TableReader(byte[] tape) {
            super(tape);
        }

        boolean readTable(int bytes, Table table) {
            into = table;
            into.clear();
            oddsTold = false;
            begin(bytes);
            for (int i = 0; i <= MOST_BYTES && kind != AT_END; i++) {
                boolean taken;
                switch (word) {
                    case ODDS: taken = readOdds(); break;
                    case TOPIC: taken = readTopic(); break;
                    case CLAIM: taken = readClaim(); break;
                    case TALKER: taken = readTalker(); break;
                    case FEUD: taken = readFeud(); break;
                    default: taken = refuseHere(OUT_OF_PLACE); break;
                }
                if (!taken || !passSemicolon()) {
                    return false;
                }
            }
            return true;
        }

        private boolean readOdds() {
            if (oddsTold) {
                return refuseHere(TOLD_ALREADY);
            }
            advance();
            if (!isNumberHere(0, 16)) {
                return false;
            }
            into.odds = number;
            oddsTold = true;
            advance();
            return true;
        }

        private boolean isNewNameHere() {
            if (!isName()) {
                return refuseHere(OUT_OF_PLACE);
            }
            boolean taken = into.findName(0, into.names.length, name) != NONE;
            return !taken || refuseHere(WRONG_NAME);
        }

        private boolean readTopic() {
            if (into.topics == Table.MOST_TOPICS) {
                return refuseHere(ONE_MORE);
            }
            advance();
            if (!isNewNameHere()) {
                return false;
            }
            into.names[into.topics] = name;
            advance();
            if (!passWord(WORTH) || !isNumberHere(0, Table.MOST_WORTH)) {
                return false;
            }
            into.worth[into.topics] = number;
            advance();
            if (!passWord(DRIFT) || !isNumberHere(0, Table.MOST_DRIFT)) {
                return false;
            }
            into.drift[into.topics] = number;
            into.topics++;
            advance();
            return true;
        }

        private boolean readClaim() {
            if (into.claims == Table.MOST_CLAIMS) {
                return refuseHere(ONE_MORE);
            }
            advance();
            if (!isNewNameHere()) {
                return false;
            }
            long newName = name;
            advance();
            if (!passWord(AT)) {
                return false;
            }
            int topic = topicNamed(into);
            if (topic == NONE) {
                return false;
            }
            advance();
            boolean isPropped = word == PROPPED;
            if (isPropped) {
                advance();
            }
            int needed = word == NEEDS ? readNeeds() : 0;
            if (needed == NONE) {
                return false;
            }
            if (isPropped) {
                into.propped |= 1 << into.claims;
            }
            into.addClaim(topic, needed, newName);
            return true;
        }

        private int readNeeds() {
            int needed = 0;
            advance();
            for (int i = 0; i <= MOST_BYTES && isName(); i++) {
                int claim = claimNamed(into);
                if (claim == NONE) {
                    return NONE;
                }
                if ((needed >> claim & 1) != 0) {
                    refuseHere(TOLD_ALREADY);
                    return NONE;
                }
                needed |= 1 << claim;
                advance();
            }
            return needed;
        }

        private boolean readTalker() {
            int talker = into.talkers;
            if (talker == Table.MOST_TALKERS) {
                return refuseHere(ONE_MORE);
            }
            advance();
            if (!isNewNameHere()) {
                return false;
            }
            into.names[Table.FIRST_TALKER_NAME + talker] = name;
            advance();
            if (!passWord(SEAT) || !isFreeSeatHere()) {
                return false;
            }
            into.seat[talker] = number;
            advance();
            if (!passWord(ON)) {
                return false;
            }
            int topic = topicNamed(into);
            if (topic == NONE) {
                return false;
            }
            into.height[talker] = topic + 1;
            into.fails[talker] = 0;
            advance();
            if (word == FAILS && !readFails(talker)) {
                return false;
            }
            into.talkers++;
            return true;
        }

        private boolean isFreeSeatHere() {
            if (!isNumberHere(0, 9)) {
                return false;
            }
            for (int i = 0; i < into.talkers; i++) {
                if (into.seat[i] == number) {
                    return refuseHere(TOLD_ALREADY);
                }
            }
            return true;
        }

        private boolean readFails(int talker) {
            advance();
            if (!isNumberHere(0, 16)) {
                return false;
            }
            into.fails[talker] = number;
            advance();
            return true;
        }

        private boolean readFeud() {
            if (into.feuds == Table.MOST_FEUDS) {
                return refuseHere(ONE_MORE);
            }
            advance();
            int talker = talkerNamed(into);
            if (talker == NONE) {
                return false;
            }
            advance();
            int foe = talkerNamed(into);
            if (foe == NONE) {
                return false;
            }
            if (talker == foe || into.isFeud(talker, foe)) {
                return refuseHere(TOLD_ALREADY);
            }
            into.addFeud(talker, foe);
            advance();
            return true;
        }
    }

    private static final class EveningsReader extends Reader {
        private Table table;
        private Evenings into;
        private int nested;
        private final int[] begun = new int[Evenings.MOST_NESTED];

        EveningsReader(byte[] tape) {
            super(tape);
        }

        boolean readEvenings(int bytes, Table names, Evenings evenings) {
            table = names;
            into = evenings;
            into.clear();
            nested = 0;
            begin(bytes);
            for (int i = 0; i <= MOST_BYTES && kind != AT_END; i++) {
                boolean taken = word == END ? readEnd() : readStep();
                if (!taken || !passSemicolon()) {
                    return false;
                }
            }
            if (nested > 0) {
                return refuseHere(OUT_OF_PLACE);
            }
            into.there = true;
            return true;
        }

        private boolean readEnd() {
            if (nested == 0) {
                return refuseHere(OUT_OF_PLACE);
            }
            nested--;
            int beginning = begun[nested];
            into.act[into.length] = END;
            into.partner[into.length] = beginning;
            into.partner[beginning] = into.length;
            into.length++;
            advance();
            return true;
        }

        private boolean readStep() {
            boolean nests = word == WHEN || word == LOOP;
            if (!nests && word != STOP && (word < SAY || word > ANY)) {
                return refuseHere(OUT_OF_PLACE);
            }
            if (into.steps == Evenings.MOST_STEPS) {
                return refuseHere(ONE_MORE);
            }
            if (nests && nested == Evenings.MOST_NESTED) {
                return refuseHere(TOO_DEEP);
            }
            if (nests) {
                begun[nested] = into.length;
                nested++;
            }
            int act = word;
            into.act[into.length] = act;
            advance();
            boolean taken;
            switch (act) {
                case SAY: taken = readTalkerHere() && readClaimHere(into.two); break;
                case DROP: taken = readTalkerHere() && readNumberHere(1, 9); break;
                case PULL: taken = readTalkerHere(); break;
                case PROP: taken = readClaimHere(into.one); break;
                case CUT: taken = readClaimHere(into.one); break;
                case WHEN: taken = readTest(); break;
                case LOOP: taken = readNumberHere(1, 99); break;
                default: taken = true; break;
            }
            into.steps++;
            into.length++;
            return taken;
        }

        private boolean readTalkerHere() {
            int talker = talkerNamed(table);
            if (talker == NONE) {
                return false;
            }
            into.one[into.length] = talker;
            advance();
            return true;
        }

        private boolean readClaimHere(int[] row) {
            int claim = claimNamed(table);
            if (claim == NONE) {
                return false;
            }
            row[into.length] = claim;
            advance();
            return true;
        }

        private boolean readNumberHere(int least, int most) {
            if (!isNumberHere(least, most)) {
                return false;
            }
            into.two[into.length] = number;
            advance();
            return true;
        }

        private boolean readTest() {
            int asked = word;
            if (asked != STANDS && asked != FALLS && asked != HIGH) {
                return refuseHere(OUT_OF_PLACE);
            }
            into.test[into.length] = asked;
            advance();
            if (asked == STANDS) {
                return readClaimHere(into.one);
            }
            if (!readTalkerHere()) {
                return false;
            }
            if (asked == FALLS) {
                return true;
            }
            if (kind != IS_SIGN || sign == ';') {
                return refuseHere(OUT_OF_PLACE);
            }
            into.test[into.length] = sign;
            advance();
            return readNumberHere(0, 9);
        }
    }

    /** One run through the EVENINGS, with what is to be told of it. */
    private static final class Evening {
        static final int MOST_DONE = 300;
        /** Between two STEPS stand at most as many ends as STEPS nest in each other, so this is far above. */
        static final int MOST_MOVES = 10000;

        private Table table;
        private Evenings evenings;
        private int seed;
        private final int[] roundsLeft = new int[Evenings.MOST_ENTRIES];
        int steps;
        int missed;
        int said;
        int fell;
        int pulls;
        int left;

        void run(Table onTable, Evenings byEvenings, int firstSeed) {
            table = onTable;
            evenings = byEvenings;
            seed = firstSeed;
            steps = 0;
            missed = 0;
            said = 0;
            fell = 0;
            pulls = 0;
            left = 0;
            int at = 0;
            for (int i = 0; i < MOST_MOVES && at < evenings.length; i++) {
                if (evenings.act[at] == Reader.END) {
                    at = behindEnd(at);
                } else if (steps == MOST_DONE) {
                    left = 1;
                    return;
                } else {
                    steps++;
                    at = behindStep(at);
                }
            }
        }

        private int behindEnd(int at) {
            int beginning = evenings.partner[at];
            // An empty loop is left at once: its rounds have no STEPS.
            if (evenings.act[beginning] != Reader.LOOP || beginning + 1 == at) {
                return at + 1;
            }
            roundsLeft[beginning]--;
            return roundsLeft[beginning] > 0 ? beginning + 1 : at + 1;
        }

        private int behindStep(int at) {
            int one = evenings.one[at];
            int two = evenings.two[at];
            switch (evenings.act[at]) {
                case Reader.SAY: doSay(one, two); break;
                case Reader.DROP: doDrop(one, two); break;
                case Reader.PULL: doPull(one); break;
                case Reader.PROP: doProp(one); break;
                case Reader.CUT: doCut(one); break;
                case Reader.ANY: doAny(); break;
                case Reader.WHEN: return holdsHere(at) ? at + 1 : evenings.partner[at] + 1;
                case Reader.LOOP: roundsLeft[at] = two; break;
                default: return evenings.length;
            }
            return at + 1;
        }

        private int draw(int by) {
            seed = (seed * 2971 + 10979) % 65536;
            return by > 0 ? seed / 8 % by : 0;
        }

        private void doSay(int talker, int claim) {
            if ((table.sayable(talker) >> claim & 1) == 0) {
                missed++;
                return;
            }
            table.letSay(talker, claim);
            said++;
            if (table.isFalling(talker)) {
                fell++;
            }
        }

        private void doDrop(int talker, int by) {
            if (table.isFalling(talker)) {
                table.letDrop(talker, by);
            } else {
                missed++;
            }
        }

        private void doPull(int talker) {
            if (table.isFalling(talker)) {
                table.letPull(talker, draw(16) >= table.fails[talker]);
                pulls++;
            } else {
                missed++;
            }
        }

        private void doProp(int claim) {
            if (table.isPropped(claim)) {
                missed++;
            } else {
                table.propped |= 1 << claim;
            }
        }

        private void doCut(int claim) {
            if (table.isPropped(claim)) {
                table.propped &= ~(1 << claim);
            } else {
                missed++;
            }
        }

        private void doAny() {
            if (table.talkers == 0 || table.claims == 0) {
                missed++;
                return;
            }
            int talker = draw(table.talkers);
            int claim = draw(table.claims);
            if (table.isFalling(talker)) {
                doPull(talker);
            } else {
                doSay(talker, claim);
            }
        }

        private boolean holdsHere(int at) {
            int one = evenings.one[at];
            switch (evenings.test[at]) {
                case Reader.STANDS: return (table.standing() >> one & 1) != 0;
                case Reader.FALLS: return table.isFalling(one);
                case '<': return table.height[one] < evenings.two[at];
                case '>': return table.height[one] > evenings.two[at];
                default: return table.height[one] == evenings.two[at];
            }
        }
    }

    /** Where one comes to by what he SAYS. */
    private static final class Ways {
        static final int DROPS = 4;
        static final int FAR = 1000;

        private Table table;
        private int standing;
        /** The END of each CLAIM by each DROP; NONE where that DROP can't be. */
        private final int[] ends = new int[Table.MOST_CLAIMS * DROPS];
        private final int[] sayingsLeft = new int[Table.MOST_TOPICS + 1];

        void findEnds(Table onTable) {
            table = onTable;
            standing = table.standing();
            for (int claim = 0; claim < table.claims; claim++) {
                boolean stands = (standing >> claim & 1) != 0;
                for (int by = 0; by < DROPS; by++) {
                    int lower = Math.max(0, table.heightOf(claim) - by);
                    int end = stands ? NONE : table.landing(lower);
                    ends[claim * DROPS + by] = stands && by == 0 ? lower : end;
                }
            }
        }

        /** How many SAYINGS the shortest WAY has; NONE if there is no WAY. */
        int sayingsTo(Table onTable, int height, int to) {
            findEnds(onTable);
            for (int i = 0; i <= table.topics; i++) {
                sayingsLeft[i] = i == to ? 0 : FAR;
            }
            // No shortest WAY comes to one HEIGHT twice, so as many rounds as TOPICS are enough.
            for (int round = 0; round < table.topics; round++) {
                for (int from = 1; from <= table.topics; from++) {
                    sayingsLeft[from] = Math.min(sayingsLeft[from], shortestBy(from));
                }
            }
            return sayingsLeft[height] < FAR ? sayingsLeft[height] : NONE;
        }

        private int shortestBy(int from) {
            int shortest = FAR;
            for (int i = 0; i < table.claims * DROPS; i++) {
                if (ends[i] != NONE && table.isNear(i / DROPS, from)) {
                    shortest = Math.min(shortest, sayingsLeft[ends[i]] + 1);
                }
            }
            return shortest;
        }

        /** Of the k-th SAYING (there is one) on the WAY that sayingsTo() looked for. */
        int tellSaying(int height, int k, int what) {
            int saying = nextSaying(height);
            for (int i = 0; i < k && saying != NONE; i++) {
                saying = nextSaying(ends[saying]);
            }
            if (saying == NONE || what == 2) {
                return saying == NONE ? NONE : ends[saying];
            }
            return what == 0 ? saying / DROPS : saying % DROPS;
        }

        private int nextSaying(int from) {
            for (int i = 0; i < table.claims * DROPS; i++) {
                boolean can = ends[i] != NONE && table.isNear(i / DROPS, from);
                if (can && sayingsLeft[ends[i]] == sayingsLeft[from] - 1) {
                    return i;
                }
            }
            return NONE;
        }

        /** How many couples of a HOLLOW CLAIM and a DROP come to a HEIGHT (behind findEnds()). */
        int couples(int height) {
            int sum = 0;
            for (int claim = 0; claim < table.claims; claim++) {
                sum += couplesOf(height, claim);
            }
            return sum;
        }

        int couplesOf(int height, int claim) {
            int sum = 0;
            for (int by = 0; by < DROPS; by++) {
                boolean hollow = (standing >> claim & 1) == 0;
                if (hollow && ends[claim * DROPS + by] == height) {
                    sum++;
                }
            }
            return sum;
        }

        void beginGame(Table onTable) {
            table = onTable;
            standing = table.standing();
        }

        int mostWorth(int talker, int sayings) {
            int height = table.height[talker];
            boolean can = table.sayable(talker) != 0;
            return can ? mostWorthFrom(height, sayings) : table.worthAt(height);
        }

        /** At most two SAYINGS are left to one in a GAME: so deep this goes. */
        private int mostWorthFrom(int height, int sayings) {
            int most = table.worthAt(height);
            for (int claim = 0; claim < table.claims && sayings > 0; claim++) {
                if ((standing >> claim & 1) != 0 && table.isNear(claim, height)) {
                    most = Math.max(most, mostWorthFrom(table.heightOf(claim), sayings - 1));
                }
            }
            return most;
        }

        int firstMove(int talker, int sayings) {
            int most = mostWorth(talker, sayings);
            int can = table.sayable(talker) & standing;
            for (int claim = 0; claim < table.claims; claim++) {
                boolean may = (can >> claim & 1) != 0;
                if (may && mostWorthFrom(table.heightOf(claim), sayings - 1) == most) {
                    return claim;
                }
            }
            return NONE;
        }
    }

    /** Looks for the best TOPICS, the best SEATS of those who FEUD. */
    private static final class Feuds {
        private Table table;
        private int topics;
        private int fewest;
        private final int[] foes = new int[Table.MOST_TALKERS];
        private final int[] row = new int[Table.MOST_TALKERS];
        final int[] bestRow = new int[Table.MOST_TALKERS];

        void begin(Table onTable) {
            table = onTable;
            for (int i = 0; i < Table.MOST_TALKERS; i++) {
                foes[i] = 0;
            }
            for (int i = 0; i < table.feuds; i++) {
                foes[table.one[i]] |= 1 << table.other[i];
                foes[table.other[i]] |= 1 << table.one[i];
            }
        }

        int topicsForPeace() {
            for (int many = 1; many < table.talkers; many++) {
                if (fewestOn(many) == 0) {
                    return many;
                }
            }
            return table.talkers;
        }

        int fewestOn(int manyTopics) {
            topics = manyTopics;
            fewest = table.feuds + 1;
            putOnTopic(0, 0, 0);
            return fewest;
        }

        /**
         * TALKERS one by one, TOPICS from the least on: the first row found of those with
         * the fewest is the first of all. A TOPIC above the next unused one only renames it.
         */
        private void putOnTopic(int talker, int used, int quarrels) {
            if (quarrels >= fewest) {
                return;
            }
            if (talker >= table.talkers) {
                keepRow(quarrels);
                return;
            }
            for (int topic = 0; topic <= used && topic < topics; topic++) {
                row[talker] = topic;
                int more = quarrelsWithEarlier(talker);
                putOnTopic(talker + 1, Math.max(used, topic + 1), quarrels + more);
            }
        }

        private int quarrelsWithEarlier(int talker) {
            int quarrels = 0;
            for (int i = 0; i < talker; i++) {
                if (row[i] == row[talker]) {
                    quarrels += foes[talker] >> i & 1;
                }
            }
            return quarrels;
        }

        int fewestBeside() {
            fewest = table.feuds + 1;
            // A table can be turned round till the first TALKER has the first SEAT.
            row[0] = 0;
            putOnSeat(1, 1, 0);
            return fewest;
        }

        private void putOnSeat(int seat, int seated, int beside) {
            if (beside >= fewest) {
                return;
            }
            if (seat >= table.talkers) {
                int last = table.talkers - 1;
                // Of two TALKERS each is beside the other once, though on both sides.
                int closing = last > 1 ? foes[row[last]] & 1 : 0;
                if (beside + closing < fewest) {
                    keepRow(beside + closing);
                }
                return;
            }
            for (int talker = 1; talker < table.talkers; talker++) {
                if ((seated >> talker & 1) == 0) {
                    row[seat] = talker;
                    int more = foes[talker] >> row[seat - 1] & 1;
                    putOnSeat(seat + 1, seated | 1 << talker, beside + more);
                }
            }
        }

        private void keepRow(int count) {
            fewest = count;
            for (int i = 0; i < table.talkers; i++) {
                bestRow[i] = row[i];
            }
        }
    }

    /** All odds are by sixteenths: so many powers of 16 stand below. */
    private static final class Reckoner {
        /** What to pull, to wait, the better of both is worth at a HEIGHT, by 16 to the power of it. */
        private final long[] pulling = new long[Table.MOST_TOPICS + 1];
        private final long[] waiting = new long[Table.MOST_TOPICS + 1];
        final long[] most = new long[Table.MOST_TOPICS + 1];
        private final long[] held = new long[Table.MOST_TALKERS + 1];

        void weigh(Table table, int talker) {
            most[0] = 0;
            long scale = 1;
            for (int height = 1; height <= table.topics; height++) {
                int worth = table.worthAt(table.landing(height));
                pulling[height] = (16 - table.fails[talker]) * worth * scale;
                waiting[height] = (16 - table.odds) * most[height - 1];
                most[height] = Math.max(pulling[height], waiting[height]);
                scale *= 16;
            }
        }

        /** At the latest at 1, where to wait is worth nothing. */
        int firstPull(int height) {
            for (int at = height; at > 1; at--) {
                if (pulling[at] >= waiting[at]) {
                    return at;
                }
            }
            return 1;
        }

        /** The odds that k or more chutes hold, by 16 to the power of how many TALKERS there are. */
        long holding(Table table, int k) {
            held[0] = 1;
            for (int talker = 0; talker < table.talkers; talker++) {
                int fails = table.fails[talker];
                held[talker + 1] = held[talker] * (16 - fails);
                for (int many = talker; many > 0; many--) {
                    held[many] = held[many] * fails + held[many - 1] * (16 - fails);
                }
                held[0] *= fails;
            }
            long sum = 0;
            for (int many = k; many <= table.talkers; many++) {
                sum += held[many];
            }
            return sum;
        }
    }
}
