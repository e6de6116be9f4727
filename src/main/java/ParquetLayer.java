import java.util.Arrays;

/**
 * A layer of floors with stones that cover two fields side by side. The promises are numbered in
 * DOC.md; the words in capitals there are the words used here.
 *
 * <p>A set of FIELDS is a long: bit f is FIELD f. What the object holds is the floor, the chain of
 * STONES (the latest first) and the LAYING IN HAND; these three never change inside, so that a past
 * can keep them as they are.
 */
public final class ParquetLayer {
    private static final int BEYOND = -100001;
    private static final int MISSING = -100002;
    private static final int SIZE = -100003;
    private static final int KIND = -100004;
    private static final int FULL = -100005;
    private static final int NONE = -100006;
    private static final int TWICE = -100007;

    private static final int GLUED = 1;
    private static final int INLAID = 2;
    private static final int EDGE = 3;
    private static final int KINDS = 4;

    private static final int MOST_STONES = 20;
    private static final int MOST_PASTS = 20;
    private static final int MOST_TRIES = 1000000;

    private final Sheet[] sheets = new Sheet[4];
    private final Past[] pasts = new Past[MOST_PASTS];
    private final Heights heights = new Heights();
    private final Turner turner = new Turner();
    private final Covering covering = new Covering();
    private Layings layings;
    private long fields;
    private Stone latest;
    private Laying hand;
    private int kept;
    private int findings;

    public ParquetLayer() {
        for (int s = 0; s < sheets.length; s++) {
            sheets[s] = new Sheet();
        }
    }

    // ---- the floor

    public int row(int y, int bits) {
        if (y < 0 || y > 7 || bits < 0 || bits > 255) {
            return finding(BEYOND);
        }
        long others = fields & ~(255L << (8 * y));
        return becomeFloor(others | ((long) bits << (8 * y)));
    }

    public int has(int field) {
        if (!Grid.isField(field)) {
            return finding(BEYOND);
        }
        return asNumber(Grid.holds(fields, field));
    }

    public int floor(int what) {
        switch (what) {
            case 0:
                return Long.bitCount(fields);
            case 1:
                return Long.bitCount(fields & Grid.DARK);
            case 2:
                return Grid.pieces(fields);
            case 3:
                return asNumber(isWhole());
            default:
                return finding(BEYOND);
        }
    }

    // ---- stones

    public int stone(int kind, int field, boolean across, int colour) {
        if (!isKind(kind) || !Grid.isField(field) || !fitsColour(kind, colour)) {
            return finding(BEYOND);
        }
        if (!isPlace(field, across)) {
            return finding(SIZE);
        }
        int number = stoneCount();
        Stone told = new Stone(latest, number, kind, field, across, colour);
        if (told.isGlued() && (told.cover & gluedFields()) != 0) {
            return finding(TWICE);
        }
        if (kind == EDGE && !Grid.touchesOutside(told.cover, fields)) {
            return finding(KIND);
        }
        if (number >= MOST_STONES) {
            return finding(FULL);
        }
        keepPast();
        latest = told;
        hand = null;
        return number;
    }

    public int loose() {
        if (latest == null) {
            return finding(NONE);
        }
        keepPast();
        latest = latest.below;
        hand = null;
        return stoneCount();
    }

    public int as(int stone, int kind) {
        Stone found = stoneOf(stone);
        if (found == null || !isKind(kind)) {
            return finding(BEYOND);
        }
        if (!isUnder(found.kind, kind)) {
            return finding(KIND);
        }
        return found.number;
    }

    public int told(int stone, int what) {
        Stone found = stoneOf(stone);
        if (found == null) {
            return finding(BEYOND);
        }
        switch (what) {
            case 0:
                return found.kind;
            case 1:
                return found.field;
            case 2:
                return asNumber(found.across);
            case 3:
                return found.colour;
            case 4:
                return hand == null ? -1 : asNumber(hand.hasStone(found.field, found.across));
            default:
                return finding(BEYOND);
        }
    }

    // ---- layings

    public int count() {
        return knownLayings().total();
    }

    public int with(int field, boolean across) {
        if (!Grid.isField(field)) {
            return finding(BEYOND);
        }
        if (!isPlace(field, across)) {
            return finding(SIZE);
        }
        if (isGluedPlace(field, across)) {
            return knownLayings().total();
        }
        long place = Grid.place(field, across);
        if ((place & gluedFields()) != 0) {
            return 0;
        }
        return knownLayings().totalWithout(place);
    }

    public int lay(int number) {
        if (!isLaying(number)) {
            return finding(BEYOND);
        }
        hand = layingOf(number);
        return 1;
    }

    public int rank() {
        return hand == null ? finding(NONE) : hand.number;
    }

    public int next() {
        if (hand == null || !isLaying(hand.number + 1)) {
            return finding(NONE);
        }
        hand = layingOf(hand.number + 1);
        return hand.number;
    }

    public int draw(int seed) {
        int total = knownLayings().total();
        if (total == 0) {
            return finding(NONE);
        }
        hand = layingOf(drawnNumber(seed, total));
        return hand.number;
    }

    public int partner(int field) {
        if (!Grid.isField(field)) {
            return finding(BEYOND);
        }
        if (hand == null || !Grid.holds(fields, field)) {
            return finding(NONE);
        }
        return hand.otherField(field);
    }

    public int turns() {
        if (hand == null) {
            return finding(NONE);
        }
        turner.start(hand, gluedFields());
        return turner.possible();
    }

    public int turn(int field) {
        if (!Turner.isCorner(field)) {
            return finding(BEYOND);
        }
        if (hand == null) {
            return finding(NONE);
        }
        turner.start(hand, gluedFields());
        if (turner.lying(field) == Turner.NO_PAIR) {
            return finding(NONE);
        }
        turner.flip(field);
        hand = layingOf(knownLayings().numberOf(turner.across));
        return hand.number;
    }

    // ---- heights

    public int height(int x, int y) {
        if (!isWhole()) {
            return finding(KIND);
        }
        if (hand == null || !Heights.isPoint(fields, x, y)) {
            return finding(NONE);
        }
        heights.measure(fields, hand, heights.here);
        return heights.here[Heights.pointOf(x, y)];
    }

    public int extreme(boolean highest) {
        if (!isWhole()) {
            return finding(KIND);
        }
        if (knownLayings().total() == 0) {
            return finding(NONE);
        }
        turner.start(layingOf(0), 0L);
        turner.goOn(highest);
        return knownLayings().numberOf(turner.across);
    }

    public int apart(int a, int b) {
        if (!isWhole()) {
            return finding(KIND);
        }
        if (!isLaying(a) || !isLaying(b)) {
            return finding(BEYOND);
        }
        measureBoth(layingOf(a), layingOf(b));
        return heights.distance();
    }

    public int step(int a, int b, int i) {
        if (!isWhole()) {
            return finding(KIND);
        }
        if (!isLaying(a) || !isLaying(b)) {
            return finding(BEYOND);
        }
        Laying start = layingOf(a);
        measureBoth(start, layingOf(b));
        if (i < 0 || i >= heights.distance()) {
            return finding(NONE);
        }
        turner.start(start, 0L);
        int field = turner.leastToward(heights.here, heights.there);
        for (int done = 0; done < i && field >= 0; done++) {
            turner.flipAlso(field, heights.here);
            field = turner.leastToward(heights.here, heights.there);
        }
        return field < 0 ? finding(NONE) : field;
    }

    public int meet(int a, int b, boolean join) {
        if (!isWhole()) {
            return finding(KIND);
        }
        if (!isLaying(a) || !isLaying(b)) {
            return finding(BEYOND);
        }
        measureBoth(layingOf(a), layingOf(b));
        heights.mix(join);
        return knownLayings().numberOf(heights.acrossStones(fields));
    }

    // ---- why there is none

    public int lack() {
        covering.cover(fields);
        return Long.bitCount(covering.left);
    }

    public int lacking(int field) {
        if (!Grid.isField(field)) {
            return finding(BEYOND);
        }
        covering.cover(fields);
        return asNumber(Grid.holds(covering.reached, field));
    }

    // ---- sheets, the whole

    public int sheet(int s, int bits, int n) {
        if (!isSheet(s) || !(bits == 0 || bits == 8 || bits == 16 || bits == 32)) {
            return finding(BEYOND);
        }
        if (n < 0) {
            return finding(SIZE);
        }
        if (n > Sheet.MOST) {
            return finding(BEYOND);
        }
        sheets[s].begin(bits, n);
        return sheets[s].size;
    }

    public int put(int s, int i, int v) {
        if (!isSheet(s)) {
            return finding(BEYOND);
        }
        Sheet sheet = sheets[s];
        if (sheet.isMissing()) {
            return finding(MISSING);
        }
        if (!sheet.hasRange(i, 1)) {
            return finding(BEYOND);
        }
        sheet.write(i, v);
        return 0;
    }

    public int copy(int s, int from, int t, int to, int n) {
        if (!isSheet(s) || !isSheet(t)) {
            return finding(BEYOND);
        }
        Sheet source = sheets[s];
        Sheet target = sheets[t];
        if (source.isMissing() || target.isMissing()) {
            return finding(MISSING);
        }
        if (source.bits != target.bits) {
            return finding(KIND);
        }
        if (!source.hasRange(from, n) || !target.hasRange(to, n)) {
            return finding(BEYOND);
        }
        System.arraycopy(source.numbers, from, target.numbers, to, n);
        return n;
    }

    public int planks(int s) {
        if (!isSheet(s)) {
            return finding(BEYOND);
        }
        if (sheets[s].isMissing()) {
            return finding(MISSING);
        }
        if (sheets[s].size > 8) {
            return finding(SIZE);
        }
        return becomeFloor(sheets[s].toldFields());
    }

    public int undo() {
        if (kept == 0) {
            return finding(NONE);
        }
        kept--;
        Past past = pasts[kept];
        pasts[kept] = null;
        if (past != null) {
            fields = past.fields;
            latest = past.latest;
            hand = past.hand;
        }
        return kept;
    }

    public int all(int what) {
        switch (what) {
            case 0:
                return stoneCount();
            case 1:
                return gluedCount();
            case 2:
                return asNumber(hand != null);
            case 3:
                return findings;
            default:
                return finding(BEYOND);
        }
    }

    // ---- what the calls share

    private int finding(int which) {
        findings++;
        return which;
    }

    private static int asNumber(boolean yes) {
        return yes ? 1 : 0;
    }

    private static boolean isKind(int kind) {
        return kind >= 0 && kind < KINDS;
    }

    private static boolean fitsColour(int kind, int colour) {
        return kind == INLAID ? colour >= 1 && colour <= 99 : colour == 0;
    }

    private static boolean isUnder(int kind, int above) {
        return above == 0 || kind == above || (above == GLUED && kind == INLAID);
    }

    private boolean isSheet(int s) {
        return s >= 0 && s < sheets.length;
    }

    private boolean isPlace(int field, boolean across) {
        long place = Grid.place(field, across);
        return place != 0 && (place & ~fields) == 0;
    }

    private boolean isWhole() {
        return gluedFields() == 0 && Grid.isDisc(fields);
    }

    private boolean isLaying(int number) {
        return number >= 0 && number < knownLayings().total();
    }

    // The latest acts are kept even when they changed nothing; a floor that stays the same leaves
    // THE LAYING IN HAND, for it is only given up when THE FLOOR changes.
    private int becomeFloor(long told) {
        for (Stone stone = latest; stone != null; stone = stone.below) {
            if ((stone.cover & ~told) != 0) {
                return finding(TWICE);
            }
        }
        for (Stone stone = latest; stone != null; stone = stone.below) {
            if (stone.kind == EDGE && !Grid.touchesOutside(stone.cover, told)) {
                return finding(KIND);
            }
        }
        keepPast();
        if (told != fields) {
            fields = told;
            hand = null;
        }
        return Long.bitCount(fields);
    }

    private void keepPast() {
        if (kept == MOST_PASTS) {
            for (int i = 1; i < MOST_PASTS; i++) {
                pasts[i - 1] = pasts[i];
            }
            kept--;
        }
        pasts[kept] = new Past(fields, latest, hand);
        kept++;
    }

    private int stoneCount() {
        return latest == null ? 0 : latest.number + 1;
    }

    private Stone stoneOf(int number) {
        for (Stone stone = latest; stone != null; stone = stone.below) {
            if (stone.number == number) {
                return stone;
            }
        }
        return null;
    }

    private int gluedCount() {
        int glued = 0;
        for (Stone stone = latest; stone != null; stone = stone.below) {
            glued += asNumber(stone.isGlued());
        }
        return glued;
    }

    private long gluedFields() {
        long glued = 0;
        for (Stone stone = latest; stone != null; stone = stone.below) {
            if (stone.isGlued()) {
                glued |= stone.cover;
            }
        }
        return glued;
    }

    private long gluedStarts(boolean across) {
        long starts = 0;
        for (Stone stone = latest; stone != null; stone = stone.below) {
            if (stone.isGlued() && stone.across == across) {
                starts |= 1L << stone.field;
            }
        }
        return starts;
    }

    private boolean isGluedPlace(int field, boolean across) {
        return Grid.holds(gluedStarts(across), field);
    }

    // Made at the first need: its table is by far the largest row of the object.
    private Layings knownLayings() {
        if (layings == null) {
            layings = new Layings();
        }
        layings.know(fields & ~gluedFields());
        return layings;
    }

    private Laying layingOf(int number) {
        Layings known = knownLayings();
        long across = known.acrossOf(number);
        long along = known.alongBeside(across);
        return new Laying(number, along | gluedStarts(false), across | gluedStarts(true));
    }

    private void measureBoth(Laying a, Laying b) {
        heights.measure(fields, a, heights.here);
        heights.measure(fields, b, heights.there);
    }

    private static int drawnNumber(int seed, int total) {
        int bits = 0;
        for (int rest = total - 1; rest > 0; rest >>= 1) {
            bits++;
        }
        int x = seed;
        for (int tries = 0; tries < MOST_TRIES; tries++) {
            int number = 0;
            for (int bit = 0; bit < bits; bit++) {
                x = 1103515245 * x + 12345;
                number = 2 * number + (x >>> 31);
            }
            if (number < total) {
                return number;
            }
        }
        return 0;
    }

    /** FIELDS and sets of them. */
    private static final class Grid {
        static final long DARK = 0xAA55AA55AA55AA55L;
        static final long RIM = 0xFF818181818181FFL;
        static final long LEFT = 0x0101010101010101L;
        static final long RIGHT = 0x8080808080808080L;

        static boolean isField(int field) {
            return field >= 0 && field < 64;
        }

        static boolean holds(long set, int field) {
            return (set >>> field & 1L) != 0;
        }

        static boolean holdsAt(long set, int x, int y) {
            return x >= 0 && x < 8 && y >= 0 && y < 8 && holds(set, 8 * y + x);
        }

        /** The two FIELDS of a PLACE; none if the second one would be beyond the grid. */
        static long place(int field, boolean across) {
            if (across) {
                return field / 8 == 7 ? 0L : (1L << field) | (1L << (field + 8));
            }
            return field % 8 == 7 ? 0L : (1L << field) | (1L << (field + 1));
        }

        static long beside(long set) {
            return (set & ~RIGHT) << 1 | (set & ~LEFT) >>> 1 | set << 8 | set >>> 8;
        }

        static long hangingTogether(long seed, long within) {
            long reached = seed & within;
            for (int i = 0; i < 64; i++) {
                long more = (reached | beside(reached)) & within;
                if (more == reached) {
                    break;
                }
                reached = more;
            }
            return reached;
        }

        static int pieces(long set) {
            int pieces = 0;
            long rest = set;
            for (int field = 0; field < 64; field++) {
                if (holds(rest, field)) {
                    rest &= ~hangingTogether(1L << field, rest);
                    pieces++;
                }
            }
            return pieces;
        }

        // The row of places around the grid hangs together and is beside all of the rim: so what is
        // outside hangs together if all of it is reached from the rim.
        static boolean isDisc(long set) {
            return pieces(set) == 1 && hangingTogether(RIM, ~set) == ~set;
        }

        static boolean touchesOutside(long cover, long set) {
            return (cover & RIM) != 0 || (beside(cover) & ~set) != 0;
        }
    }

    /** A STONE that was told, above those that were told ahead of it. */
    private static final class Stone {
        final Stone below;
        final int number;
        final int kind;
        final int field;
        final boolean across;
        final int colour;
        final long cover;

        Stone(Stone below, int number, int kind, int field, boolean across, int colour) {
            this.below = below;
            this.number = number;
            this.kind = kind;
            this.field = field;
            this.across = across;
            this.colour = colour;
            this.cover = Grid.place(field, across);
        }

        boolean isGlued() {
            return isUnder(kind, GLUED);
        }
    }

    /** What undo() brings back. */
    private static final class Past {
        final long fields;
        final Stone latest;
        final Laying hand;

        Past(long fields, Stone latest, Laying hand) {
            this.fields = fields;
            this.latest = latest;
            this.hand = hand;
        }
    }

    /** A LAYING: the FIELDS on which a stone ALONG begins, and those for ACROSS. */
    private static final class Laying {
        final int number;
        final long along;
        final long across;

        Laying(int number, long along, long across) {
            this.number = number;
            this.along = along;
            this.across = across;
        }

        boolean hasStone(int field, boolean lyingAcross) {
            return Grid.holds(lyingAcross ? across : along, field);
        }

        /** For a FIELD that is covered. */
        int otherField(int field) {
            if (Grid.holds(along, field)) {
                return field + 1;
            }
            if (Grid.holds(across, field)) {
                return field + 8;
            }
            return Grid.holds(along << 1, field) ? field - 1 : field - 8;
        }
    }

    /**
     * All LAYINGS of the FIELDS that are not glued over, by their numbers. What is glued lies the
     * same in all of them, so it has no part in their ORDER.
     *
     * <p>An int holds each count: a matrix of 32 DARK FIELDS by their LIGHT neighbours bounds it
     * (Bregman) below 2 to the 31 for every floor that is not the whole grid.
     */
    private static final class Layings {
        private static final int MASKS = 256;

        // ways[256 f + m]: in how many ways the FIELDS from f on can be covered if those of m (bit
        // i: FIELD f + i) are covered by stones from ahead of f.
        private final int[] ways = new int[65 * MASKS];
        private final int[] pair = new int[2 * MASKS];
        private long free;
        private boolean known;

        void know(long fields) {
            if (known && free == fields) {
                return;
            }
            free = fields;
            known = true;
            ways[64 * MASKS] = 1;
            for (int f = 63; f >= 0; f--) {
                fill(ways, f * MASKS, (f + 1) * MASKS, free, f);
            }
        }

        int total() {
            return ways[0];
        }

        int totalWithout(long place) {
            pair[0] = 1;
            for (int f = 63; f >= 0; f--) {
                fill(pair, (f & 1) * MASKS, ((f + 1) & 1) * MASKS, free & ~place, f);
            }
            return pair[0];
        }

        // Only sets of free FIELDS can be covered ahead: the others are never looked up.
        private static void fill(int[] table, int to, int from, long free, int f) {
            int window = (int) (free >>> f) & 255;
            boolean along = alongFits(free, f);
            boolean across = acrossFits(free, f);
            int mask = window;
            for (int left = MASKS; left > 0; left--) {
                int rest = mask >> 1;
                int sum = 0;
                if ((window & 1) == 0 || (mask & 1) != 0) {
                    sum = table[from + rest];
                } else {
                    if (along && (mask & 2) == 0) {
                        sum += table[from + (rest | 1)];
                    }
                    if (across) {
                        sum += table[from + (rest | 128)];
                    }
                }
                table[to + mask] = sum;
                if (mask == 0) {
                    break;
                }
                mask = (mask - 1) & window;
            }
        }

        private static boolean alongFits(long free, int f) {
            return f % 8 < 7 && Grid.holds(free, f + 1);
        }

        private static boolean acrossFits(long free, int f) {
            return f < 56 && Grid.holds(free, f + 8);
        }

        /** How many LAYINGS go on with a stone ALONG at f, which is not covered yet. */
        private int alongWays(int f, int mask) {
            if (!alongFits(free, f) || (mask & 2) != 0) {
                return 0;
            }
            return ways[(f + 1) * MASKS + (mask >> 1 | 1)];
        }

        private boolean beginsStone(int f, int mask) {
            return Grid.holds(free, f) && (mask & 1) == 0;
        }

        /** Where the stones ACROSS begin in the LAYING of a number below total(). */
        long acrossOf(int number) {
            long across = 0;
            int rest = number;
            int mask = 0;
            for (int f = 0; f < 64; f++) {
                int after = mask >> 1;
                if (beginsStone(f, mask)) {
                    int ahead = alongWays(f, mask);
                    if (rest < ahead) {
                        after |= 1;
                    } else {
                        rest -= ahead;
                        across |= 1L << f;
                        after |= 128;
                    }
                }
                mask = after;
            }
            return across;
        }

        /** Where the stones ALONG begin if those ACROSS begin at these FIELDS. */
        long alongBeside(long across) {
            long along = 0;
            long open = free & ~across & ~(across << 8);
            for (int f = 0; f < 63; f++) {
                if (Grid.holds(open, f)) {
                    along |= 1L << f;
                    open &= ~(3L << f);
                }
            }
            return along;
        }

        int numberOf(long across) {
            int number = 0;
            int mask = 0;
            for (int f = 0; f < 64; f++) {
                int after = mask >> 1;
                if (beginsStone(f, mask)) {
                    if (Grid.holds(across, f)) {
                        number += alongWays(f, mask);
                        after |= 128;
                    } else {
                        after |= 1;
                    }
                }
                mask = after;
            }
            return number;
        }
    }

    /** TURNS of the stones that are not glued, one after another. */
    private static final class Turner {
        static final int NO_PAIR = 0;
        static final int PAIR_ALONG = 1;
        static final int PAIR_ACROSS = 2;
        private static final int MOST_ROUNDS = 1000;
        private static final int CORNERS = 55;

        long along;
        long across;

        static boolean isCorner(int field) {
            return field >= 0 && field < CORNERS && field % 8 < 7;
        }

        void start(Laying laying, long glued) {
            along = laying.along & ~glued;
            across = laying.across & ~glued;
        }

        /** How two stones lie that a TURN at a FIELD would take. */
        int lying(int field) {
            if (!isCorner(field)) {
                return NO_PAIR;
            }
            long under = 1L << field | 1L << (field + 8);
            if ((along & under) == under) {
                return PAIR_ALONG;
            }
            long right = 1L << field | 1L << (field + 1);
            return (across & right) == right ? PAIR_ACROSS : NO_PAIR;
        }

        int possible() {
            int sum = 0;
            for (int field = 0; field < CORNERS; field++) {
                if (lying(field) != NO_PAIR) {
                    sum++;
                }
            }
            return sum;
        }

        /** The TURN at a FIELD where lying() tells a pair. */
        void flip(int field) {
            along ^= 1L << field | 1L << (field + 8);
            across ^= 1L << field | 1L << (field + 1);
        }

        /** By how much a TURN at a FIELD lifts the POINT amid its stones; no other one moves. */
        int lift(int field) {
            int pair = lying(field);
            if (pair == NO_PAIR) {
                return 0;
            }
            return (pair == PAIR_ALONG) == Grid.holds(Grid.DARK, field) ? -4 : 4;
        }

        // Wherever a LAYING is not the lowest (highest) one, some TURN still leads down (up): so it
        // does not matter which ones are taken.
        void goOn(boolean up) {
            boolean moved = true;
            for (int round = 0; moved && round < MOST_ROUNDS; round++) {
                moved = false;
                for (int field = 0; field < CORNERS; field++) {
                    int lift = lift(field);
                    if (up ? lift > 0 : lift < 0) {
                        flip(field);
                        moved = true;
                    }
                }
            }
        }

        /** The least FIELD whose TURN brings the heights nearer to others; -1 if none does. */
        int leastToward(int[] here, int[] there) {
            for (int field = 0; field < CORNERS; field++) {
                int lift = lift(field);
                int amid = Heights.pointAmid(field);
                if (lift > 0 && here[amid] < there[amid] || lift < 0 && here[amid] > there[amid]) {
                    return field;
                }
            }
            return -1;
        }

        void flipAlso(int field, int[] heights) {
            heights[Heights.pointAmid(field)] += lift(field);
            flip(field);
        }
    }

    /** HEIGHTS of the POINTS of a WHOLE FLOOR in two LAYINGS: in one here, in another there. */
    private static final class Heights {
        private static final int SIDE = 9;
        private static final int POINTS = SIDE * SIDE;
        private static final int UNKNOWN = 1000;

        final int[] here = new int[POINTS];
        final int[] there = new int[POINTS];
        private final int[] queue = new int[POINTS];
        private int queued;
        private int[] target = here;

        static int pointOf(int x, int y) {
            return SIDE * y + x;
        }

        /** For a FIELD with x and y 0 to 6, and for those between them. */
        static int pointAmid(int field) {
            return pointOf(field % 8 + 1, field / 8 + 1);
        }

        static boolean isPoint(long fields, int x, int y) {
            if (x < 0 || x >= SIDE || y < 0 || y >= SIDE) {
                return false;
            }
            return Grid.holdsAt(fields, x, y) || Grid.holdsAt(fields, x - 1, y)
                || Grid.holdsAt(fields, x, y - 1) || Grid.holdsAt(fields, x - 1, y - 1);
        }

        void measure(long fields, Laying laying, int[] into) {
            Arrays.fill(into, UNKNOWN);
            target = into;
            queued = 0;
            reach(firstPoint(fields), 0);
            for (int at = 0; at < POINTS && at < queued; at++) {
                int x = queue[at] % SIDE;
                int y = queue[at] / SIDE;
                int height = into[queue[at]];
                if (isOpenFlat(fields, laying, x, y)) {
                    reach(pointOf(x + 1, y), height + riseRight(x, y));
                }
                if (isOpenFlat(fields, laying, x - 1, y)) {
                    reach(pointOf(x - 1, y), height - riseRight(x - 1, y));
                }
                if (isOpenSteep(fields, laying, x, y)) {
                    reach(pointOf(x, y + 1), height - riseRight(x, y));
                }
                if (isOpenSteep(fields, laying, x, y - 1)) {
                    reach(pointOf(x, y - 1), height + riseRight(x, y - 1));
                }
            }
        }

        private void reach(int point, int height) {
            if (point >= 0 && point < POINTS && target[point] == UNKNOWN && queued < POINTS) {
                target[point] = height;
                queue[queued] = point;
                queued++;
            }
        }

        private static int firstPoint(long fields) {
            int field = 0;
            while (field < 63 && !Grid.holds(fields, field)) {
                field++;
            }
            return pointOf(field % 8, field / 8);
        }

        // Who goes right from (x, y) has the place (x, y - 1) on the left; who goes down has (x, y)
        // there, which is of the other kind: so a way down is a way right with the other sign.
        private static int riseRight(int x, int y) {
            return ((x + y) & 1) == 1 ? 1 : -1;
        }

        /** Whether one may go between (x, y) and (x + 1, y). */
        private static boolean isOpenFlat(long fields, Laying laying, int x, int y) {
            return (Grid.holdsAt(fields, x, y) || Grid.holdsAt(fields, x, y - 1))
                && !Grid.holdsAt(laying.across, x, y - 1);
        }

        /** Whether one may go between (x, y) and (x, y + 1). */
        private static boolean isOpenSteep(long fields, Laying laying, int x, int y) {
            return (Grid.holdsAt(fields, x, y) || Grid.holdsAt(fields, x - 1, y))
                && !Grid.holdsAt(laying.along, x - 1, y);
        }

        /** APART: how many TURNS lie between here and there. */
        int distance() {
            int sum = 0;
            for (int point = 0; point < POINTS; point++) {
                sum += Math.abs(here[point] - there[point]);
            }
            return sum / 4;
        }

        /** Here becomes, POINT by POINT, the lesser (the greater) of here and there. */
        void mix(boolean greater) {
            for (int point = 0; point < POINTS; point++) {
                here[point] = greater
                    ? Math.max(here[point], there[point]) : Math.min(here[point], there[point]);
            }
        }

        // Along an edge that no stone covers on both sides the heights differ by 1; along one that a
        // stone covers, three such edges lead around half of it.
        long acrossStones(long fields) {
            long across = 0;
            for (int field = 0; field < 56; field++) {
                int left = pointOf(field % 8, field / 8 + 1);
                boolean both = Grid.holds(fields, field) && Grid.holds(fields, field + 8);
                if (both && Math.abs(here[left] - here[left + 1]) == 3) {
                    across |= 1L << field;
                }
            }
            return across;
        }
    }

    /** Stones on as many DARK FIELDS as can be, glued or not. */
    private static final class Covering {
        private static final int NOBODY = -1;
        private static final int MOST_ROUNDS = 33;

        private final int[] mate = new int[64];
        private final int[] reachedFrom = new int[64];
        private final int[] queue = new int[64];
        private int queued;
        private long seen;
        long left;
        long reached;

        /** Afterwards left is what one covering leaves, reached what any such one could leave. */
        void cover(long fields) {
            Arrays.fill(mate, NOBODY);
            int light = search(fields);
            for (int round = 0; light != NOBODY && round < MOST_ROUNDS; round++) {
                shift(light);
                light = search(fields);
            }
        }

        // From all DARK FIELDS that are left: to a LIGHT one beside, on to the DARK one that shares
        // a stone with it, and so on, up to a LIGHT one without a stone.
        private int search(long fields) {
            queueLeft(fields & Grid.DARK);
            seen = 0;
            for (int at = 0; at < queue.length && at < queued; at++) {
                int dark = queue[at];
                long lights = Grid.beside(1L << dark) & fields & ~seen;
                int last = Math.min(63, dark + 8);
                for (int light = Math.max(0, dark - 8); light <= last; light++) {
                    if (Grid.holds(lights, light)) {
                        reachedFrom[light] = dark;
                        if (mate[light] == NOBODY) {
                            return light;
                        }
                        seen |= 1L << light;
                        enqueue(mate[light]);
                    }
                }
            }
            return NOBODY;
        }

        private void queueLeft(long dark) {
            queued = 0;
            reached = 0;
            for (int field = 0; field < 64; field++) {
                if (Grid.holds(dark, field) && mate[field] == NOBODY) {
                    enqueue(field);
                }
            }
            left = reached;
        }

        private void enqueue(int dark) {
            if (queued < queue.length && !Grid.holds(reached, dark)) {
                queue[queued] = dark;
                queued++;
                reached |= 1L << dark;
            }
        }

        private void shift(int end) {
            int light = end;
            for (int i = 0; light != NOBODY && i < 64; i++) {
                int dark = reachedFrom[light];
                int before = mate[dark];
                mate[dark] = light;
                mate[light] = dark;
                light = before;
            }
        }
    }

    /** A row of up to 16 numbers; of 0 bits if it is MISSING. */
    private static final class Sheet {
        static final int MOST = 16;

        final int[] numbers = new int[MOST];
        int bits;
        int size;

        boolean isMissing() {
            return bits == 0;
        }

        void begin(int width, int length) {
            bits = width;
            size = width == 0 ? 0 : length;
            Arrays.fill(numbers, 0);
        }

        boolean hasRange(int from, int n) {
            return from >= 0 && n >= 0 && n <= size && from <= size - n;
        }

        void write(int i, int value) {
            if (i >= 0 && i < MOST) {
                numbers[i] = bits == 32 ? value : value & ((1 << bits) - 1);
            }
        }

        /** The FIELDS of the first eight numbers, row by row. */
        long toldFields() {
            long told = 0;
            for (int y = 0; y < 8 && y < size; y++) {
                told |= (long) (numbers[y] & 255) << (8 * y);
            }
            return told;
        }
    }
}
