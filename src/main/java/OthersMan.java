/**
 * Each moves the other's man: a board told by a text, a walk of told, refused and done steps,
 * and what can be reckoned from where it stands. The promises are numbered in DOC.md.
 */
public final class OthersMan {
    public static final int BAD = -1, STATE = -2, FULL = -3, NONE = -9;
    public static final int NO = -1000000;

    private static final int MOST_BYTES = 300;
    private static final int BYTES_AT_ONCE = 8;
    private static final int FIRST_SIDE = 4;
    private static final int LEAST_SIDE = 2;
    private static final int MOST_SIDE = 4;
    private static final int MOST_CELLS = 16;
    private static final int MOST_LAWS = 3;
    private static final int MOST_FAR = 2;
    private static final int DIRECTIONS = 8;
    private static final int MEN = 2;
    private static final int MOST_REFUSALS = 2;
    private static final int MOST_STEPS = 99;
    private static final int MOST_ROUNDS = 99;
    private static final int MOST_SAFE = 9;
    private static final int MOST_AHEAD = 5;
    private static final int IMAGES = 2;
    private static final int FAULT_FROM = -10;

    // What a cell is; the words that tell these cells bear the same numbers.
    private static final int PIT = 1, BELL = 2, WALL = 3;

    // What a walk is.
    private static final int GOES_ON = 0, A_WON = 1, B_WON = 2, NOBODY_WON = 3;

    // What comes of the man that has stepped.
    private static final int STANDS = 0, RINGS = 1, COMES_HOME = 2, IS_LOST = 3;

    // How far a direction goes to the right and down.
    private static final int[] RIGHT = {0, 1, 1, 1, 0, -1, -1, -1};
    private static final int[] DOWN = {-1, -1, 0, 1, 1, 1, 0, -1};

    private final Script script = new Script();
    private final Walk walk = new Walk();
    private final Walk roundWalk = new Walk();
    private final Walk image0 = new Walk();
    private final Walk image1 = new Walk();
    private final Reckoner reckoner = new Reckoner();
    private final int[] pairValues = new int[MOST_LAWS * MOST_LAWS];
    private Plan plan = new Plan();
    private Plan draft = new Plan();
    private int keptImages;
    private long traced;

    public OthersMan() {
        plan.setAtFirst(FIRST_SIDE, FIRST_SIDE);
        draft.setAtFirst(FIRST_SIDE, FIRST_SIDE);
        walk.start(plan);
        walk.chance = 1;
    }

    // ---- the board

    public int type(long v, int n) {
        if (n < 1 || n > BYTES_AT_ONCE) return BAD;
        if (script.length + n > MOST_BYTES) return FULL;
        return script.append(v, n);
    }

    public int clear() {
        return script.drop();
    }

    public int board() {
        int fault = script.readInto(draft);
        if (fault != NONE) return FAULT_FROM - fault;
        Plan old = plan;
        plan = draft;
        draft = old;
        script.drop();
        keptImages = 0;
        walk.start(plan);
        return script.items;
    }

    public int cell(int x, int y) {
        if (!isBelow(x, plan.wide) || !isBelow(y, plan.high)) return BAD;
        return at(plan.kinds, plan.numberOf(x, y));
    }

    public int law(int l, int what) {
        if (!isBelow(l, plan.laws) || !isBelow(what, 2)) return BAD;
        return what == 0 ? at(plan.fars, l) : at(plan.ways, l);
    }

    public int man(int m, int what) {
        if (!isBelow(m, MEN)) return BAD;
        switch (what) {
            case 0: return at(walk.cells, m);
            case 1: return at(plan.homes, m);
            case 2: return plan.lawOf(m);
            case 3: return at(walk.left, m);
            case 4: return walk.mayOf(plan, m);
            default: return BAD;
        }
    }

    // ---- walks

    public int tell(int direction) {
        int refused = whyNotTold(direction);
        if (refused != 0) return refused;
        walk.doStep(plan, direction);
        return walk.outcome;
    }

    public int refuse(int direction) {
        int refused = whyNotTold(direction);
        if (refused != 0) return refused;
        if (!mayBeRefused(direction)) return STATE;
        return walk.doRefusal(direction);
    }

    public int pass() {
        if (walk.outcome != GOES_ON) return STATE;
        if (walk.mayOf(plan, walk.toldMan()) != 0) return STATE;
        walk.doPass();
        return walk.outcome;
    }

    public int now(int what) {
        switch (what) {
            case 0: return walk.teller;
            case 1: return walk.steps;
            case 2: return walk.outcome;
            case 3: return walk.barred;
            default: return BAD;
        }
    }

    public int anew() {
        int steps = walk.steps;
        walk.start(plan);
        return steps;
    }

    // ---- reckoned

    public int safe(int m, int n) {
        if (!isBelow(m, MEN) || n < 0 || n > MOST_SAFE) return BAD;
        int cells = plan.solidCells();
        for (int i = 0; i < n; i++) cells = plan.safeWithin(plan.lawOf(m), cells);
        return cells;
    }

    public int safest(int m) {
        if (!isBelow(m, MEN)) return BAD;
        int own = at(walk.cells, m);
        int cells = plan.solidCells();
        int most = NONE;
        for (int n = 0; n <= MOST_SAFE && hasBit(cells, own); n++) {
            most = n;
            cells = plan.safeWithin(plan.lawOf(m), cells);
        }
        return most;
    }

    public int value(int n) {
        if (n < 0 || n > MOST_AHEAD) return NO;
        return valueAsItIs(n);
    }

    public int best(int n) {
        if (n < 1 || n > MOST_AHEAD) return BAD;
        if (walk.outcome != GOES_ON) return NONE;
        int may = walk.mayOf(plan, walk.toldMan());
        int most = valueAsItIs(n);
        for (int d = 0; d < DIRECTIONS; d++) {
            if (!hasBit(may, d) || d == walk.barred) continue;
            if (reckoner.afterTold(walk.key(), d, mayBeRefused(d), ahead(n)) == most) return d;
        }
        return NONE;
    }

    public int refuses(int direction, int n) {
        if (n < 1 || n > MOST_AHEAD) return BAD;
        int refused = whyNotTold(direction);
        if (refused != 0) return refused;
        if (!mayBeRefused(direction)) return 0;
        reckonAsItIs();
        return reckoner.isBetterRefused(walk.key(), direction, ahead(n)) ? 1 : 0;
    }

    public int worth(int m, int n) {
        if (!isBelow(m, MEN) || n < 0 || n > MOST_AHEAD - 1) return NO;
        int asItIs = valueAsItIs(n);
        int key = walk.key();
        if (Reckoner.leftIn(key, m) >= MOST_REFUSALS) return 0;
        return valueFrom(Reckoner.withRefusals(key, m, 1), n) - asItIs;
    }

    public int bag(int i, int j, int n) {
        if (!isBelow(i, plan.laws) || !isBelow(j, plan.laws)) return NO;
        if (n < 0 || n > MOST_AHEAD - 1) return NO;
        return valueByLaws(i, j, n);
    }

    public int fairest(int n) {
        if (n < 0 || n > MOST_AHEAD - 2) return BAD;
        for (int i = 0; i < plan.laws; i++) {
            for (int j = 0; j < plan.laws; j++) put(pairValues, i * MOST_LAWS + j, valueByLaws(i, j, n));
        }
        for (int i = 0; i < plan.laws; i++) {
            for (int j = 0; j < plan.laws; j++) if (isFair(i, j)) return 10 * i + j;
        }
        return NONE;
    }

    public int even(int n) {
        if (n < 0 || n > MOST_AHEAD - 1) return BAD;
        if (valueAsItIs(n) != 0) return 0;
        reckoner.begin(plan, plan.lawOf(1), plan.lawOf(0));
        reckoner.setHomes(at(plan.homes, 1), at(plan.homes, 0));
        return valueFrom(Reckoner.changedMen(walk.key()), n) == 0 ? 1 : 0;
    }

    public int rounds(int k) {
        if (k < 1 || k > MOST_ROUNDS) return NO;
        int more = 0;
        roundWalk.chance = walk.chance;
        for (int i = 0; i < k; i++) {
            roundWalk.start(plan);
            more += walkedByLot();
        }
        walk.chance = roundWalk.chance;
        return more;
    }

    public int lot(int v) {
        int was = walk.chance;
        walk.chance = v;
        return was;
    }

    // ---- kinds, images

    public int rate(int kind, int m) {
        if (!isBelow(m, MEN)) return NO;
        switch (kind) {
            case 0: return rateStep(m);
            case 1: return rateTold(m);
            case 2: return rateRung(m);
            case 3: return rateRefused(m);
            case 4: return rateFatal(m);
            case 5: return ratePassed(m);
            default: return NO;
        }
    }

    public int keep(int image) {
        if (!isBelow(image, IMAGES)) return BAD;
        imageOf(image).copyFrom(walk);
        keptImages |= 1 << image;
        return walk.steps;
    }

    public int back(int image) {
        if (!isBelow(image, IMAGES)) return BAD;
        if (!hasBit(keptImages, image)) return STATE;
        walk.copyFrom(imageOf(image));
        return walk.steps;
    }

    public int count(int what) {
        switch (what) {
            case 0: return plan.wide;
            case 1: return plan.high;
            case 2: return plan.laws;
            case 3: return plan.cellsThatAre(PIT);
            case 4: return plan.cellsThatAre(BELL);
            case 5: return plan.cellsThatAre(WALL);
            case 6: return script.length;
            default: return BAD;
        }
    }

    public long trace() {
        return traced;
    }

    // ---- what a step may be

    /** Why a step can't be told: BAD, STATE; 0 if it may be told. */
    private int whyNotTold(int direction) {
        if (!isBelow(direction, DIRECTIONS)) return BAD;
        if (walk.outcome != GOES_ON) return STATE;
        if (direction == walk.barred) return BAD;
        return hasBit(walk.mayOf(plan, walk.toldMan()), direction) ? 0 : BAD;
    }

    private boolean mayBeRefused(int direction) {
        int m = walk.toldMan();
        if (walk.barred != NONE || at(walk.left, m) <= 0) return false;
        return withoutBit(walk.mayOf(plan, m), direction) != 0;
    }

    // ---- what is reckoned

    /** The walk is over behind its last step, so nothing beyond that is looked at. */
    private int ahead(int n) {
        return Math.min(n, MOST_STEPS - walk.steps);
    }

    private void reckonAsItIs() {
        reckoner.begin(plan, plan.lawOf(0), plan.lawOf(1));
    }

    private int valueAsItIs(int n) {
        reckonAsItIs();
        return valueFrom(walk.key(), n);
    }

    private int valueByLaws(int i, int j, int n) {
        reckoner.begin(plan, i, j);
        return valueFrom(walk.key(), n);
    }

    private int valueFrom(int key, int n) {
        if (walk.outcome != GOES_ON) return walk.won();
        return reckoner.mostFrom(key, walk.barred, ahead(n));
    }

    /** Whether neither A gains by another law of man 0, nor B by another one of man 1. */
    private boolean isFair(int i, int j) {
        if (at(pairValues, i * MOST_LAWS + j) != 0) return false;
        for (int l = 0; l < plan.laws; l++) {
            if (at(pairValues, l * MOST_LAWS + j) > 0 || at(pairValues, i * MOST_LAWS + l) < 0) return false;
        }
        return true;
    }

    /** Walks the round that has been started, told by the lot: 1 if A won, -1 if B won, 0. */
    private int walkedByLot() {
        for (int i = 0; i < MOST_STEPS && roundWalk.outcome == GOES_ON; i++) {
            int may = roundWalk.mayOf(plan, roundWalk.toldMan());
            if (may == 0) roundWalk.doPass();
            else roundWalk.doStep(plan, bitOfRank(may, roundWalk.draw(Integer.bitCount(may))));
        }
        return roundWalk.won();
    }

    // ---- the kinds of steps, each over another

    private int rateStep(int m) {
        traced += 1;
        return at(walk.cells, m);
    }

    private int rateTold(int m) {
        traced += 10;
        return rateStep(m) + Integer.bitCount(walk.mayOf(plan, m));
    }

    private int rateRung(int m) {
        traced += 100;
        return rateStep(m) + at(walk.left, m);
    }

    private int rateRefused(int m) {
        traced += 1000;
        return 2 * rateTold(m);
    }

    private int rateFatal(int m) {
        traced += 10000;
        return rateRung(m) - at(plan.homes, m);
    }

    private int ratePassed(int m) {
        traced += 100000;
        return rateStep(m) - walk.steps;
    }

    private Walk imageOf(int image) {
        return image == 0 ? image0 : image1;
    }

    // ---- rows and bits, looked at before they are used

    private static boolean isBelow(int v, int bound) {
        return v >= 0 && v < bound;
    }

    private static int at(int[] row, int i) {
        return i >= 0 && i < row.length ? row[i] : 0;
    }

    private static void put(int[] row, int i, int v) {
        if (i >= 0 && i < row.length) row[i] = v;
    }

    private static boolean hasBit(int bits, int i) {
        return i >= 0 && i < 32 && (bits >> i & 1) != 0;
    }

    private static int withoutBit(int bits, int i) {
        return i >= 0 && i < 32 ? bits & ~(1 << i) : bits;
    }

    /** The place of the set bit that has so many set bits below it. */
    private static int bitOfRank(int bits, int rank) {
        int below = 0;
        for (int i = 0; i < 32; i++) {
            if (!hasBit(bits, i)) continue;
            if (below == rank) return i;
            below++;
        }
        return NONE;
    }

    /** What a text tells: cells, laws, and the men as they are at first. */
    private static final class Plan {
        private final int[] kinds = new int[MOST_CELLS];
        private final int[] fars = new int[MOST_LAWS];
        private final int[] ways = new int[MOST_LAWS];
        // Where each law leads from each cell by each direction, so that no step is reckoned twice.
        private final int[] leads = new int[MOST_LAWS * MOST_CELLS * DIRECTIONS];
        private final int[] starts = new int[MEN];
        private final int[] homes = new int[MEN];
        private final int[] uses = new int[MEN];
        private final int[] refusals = new int[MEN];
        private int wide;
        private int high;
        private int laws;

        void setAtFirst(int w, int h) {
            wide = w;
            high = h;
            laws = 0;
            for (int c = 0; c < MOST_CELLS; c++) put(kinds, c, 0);
            for (int m = 0; m < MEN; m++) {
                put(starts, m, m == 0 ? 0 : w * h - 1);
                put(homes, m, m == 0 ? w * h - 1 : 0);
                put(uses, m, 0);
                put(refusals, m, 1);
            }
        }

        int numberOf(int x, int y) {
            return wide * y + x;
        }

        int lawOf(int m) {
            return laws == 0 ? NONE : at(uses, m);
        }

        int cellsThatAre(int kind) {
            int found = 0;
            for (int c = 0; c < wide * high; c++) if (at(kinds, c) == kind) found++;
            return found;
        }

        void mapSteps() {
            for (int l = 0; l < laws; l++) {
                for (int y = 0; y < high; y++) {
                    for (int x = 0; x < wide; x++) mapStepsFrom(l, x, y);
                }
            }
        }

        private void mapStepsFrom(int l, int x, int y) {
            int from = (l * MOST_CELLS + numberOf(x, y)) * DIRECTIONS;
            for (int d = 0; d < DIRECTIONS; d++) put(leads, from + d, reach(l, x, y, d));
        }

        private int reach(int l, int x, int y, int d) {
            if (!hasBit(at(ways, l), d)) return NONE;
            int toX = x + at(fars, l) * at(RIGHT, d);
            int toY = y + at(fars, l) * at(DOWN, d);
            if (!isBelow(toX, wide) || !isBelow(toY, high)) return NONE;
            int c = numberOf(toX, toY);
            return at(kinds, c) == WALL ? NONE : c;
        }

        /** The cell that a direction leads to, whoever stands on it; NONE. */
        int leadsTo(int l, int c, int d) {
            if (!isBelow(l, laws) || !isBelow(c, MOST_CELLS) || !isBelow(d, DIRECTIONS)) return NONE;
            return at(leads, (l * MOST_CELLS + c) * DIRECTIONS + d);
        }

        /** The directions by which a step may be, as bits. */
        int mayBits(int l, int own, int other) {
            int bits = 0;
            for (int d = 0; d < DIRECTIONS; d++) {
                int to = leadsTo(l, own, d);
                if (to != NONE && to != other) bits |= 1 << d;
            }
            return bits;
        }

        int fateOn(int c, int home) {
            int kind = at(kinds, c);
            if (kind == PIT) return IS_LOST;
            if (c == home) return COMES_HOME;
            return kind == BELL ? RINGS : STANDS;
        }

        /** The cells that are neither pits nor walls, as bits. */
        int solidCells() {
            int bits = 0;
            for (int c = 0; c < wide * high; c++) {
                int kind = at(kinds, c);
                if (kind != PIT && kind != WALL) bits |= 1 << c;
            }
            return bits;
        }

        /** Those of the cells from which every step of a law stays among the cells. */
        int safeWithin(int l, int cells) {
            int bits = 0;
            for (int c = 0; c < wide * high; c++) {
                if (hasBit(cells, c) && staysWithin(l, c, cells)) bits |= 1 << c;
            }
            return bits;
        }

        private boolean staysWithin(int l, int c, int cells) {
            for (int d = 0; d < DIRECTIONS; d++) {
                int to = leadsTo(l, c, d);
                if (to != NONE && !hasBit(cells, to)) return false;
            }
            return true;
        }
    }

    /** Where a walk stands: all that an image keeps. */
    private static final class Walk {
        private final int[] cells = new int[MEN];
        private final int[] left = new int[MEN];
        private int teller;
        private int barred = NONE;
        private int steps;
        private int outcome;
        private int chance;

        /** As at first, but for the lot, which goes on. */
        void start(Plan plan) {
            for (int m = 0; m < MEN; m++) {
                put(cells, m, at(plan.starts, m));
                put(left, m, at(plan.refusals, m));
            }
            teller = 0;
            barred = NONE;
            steps = 0;
            outcome = GOES_ON;
        }

        void copyFrom(Walk other) {
            for (int m = 0; m < MEN; m++) {
                put(cells, m, at(other.cells, m));
                put(left, m, at(other.left, m));
            }
            teller = other.teller;
            barred = other.barred;
            steps = other.steps;
            outcome = other.outcome;
            chance = other.chance;
        }

        int toldMan() {
            return 1 - teller;
        }

        int mayOf(Plan plan, int m) {
            return plan.mayBits(plan.lawOf(m), at(cells, m), at(cells, 1 - m));
        }

        void doStep(Plan plan, int direction) {
            int m = toldMan();
            int to = plan.leadsTo(plan.lawOf(m), at(cells, m), direction);
            if (to == NONE) return;
            put(cells, m, to);
            int fate = plan.fateOn(to, at(plan.homes, m));
            if (fate == IS_LOST) outcome = m == 0 ? B_WON : A_WON;
            else if (fate == COMES_HOME) outcome = m == 0 ? A_WON : B_WON;
            else if (fate == STANDS) teller = 1 - teller;
            goOn();
        }

        void doPass() {
            teller = 1 - teller;
            goOn();
        }

        private void goOn() {
            barred = NONE;
            steps++;
            if (outcome == GOES_ON && steps >= MOST_STEPS) outcome = NOBODY_WON;
        }

        int doRefusal(int direction) {
            int m = toldMan();
            int then = at(left, m) - 1;
            put(left, m, then);
            barred = direction;
            return then;
        }

        /** 1 if A won, -1 if B won, 0. */
        int won() {
            if (outcome == A_WON) return 1;
            return outcome == B_WON ? -1 : 0;
        }

        int draw(int among) {
            chance = chance * 1103515245 + 12345;
            return among > 0 ? (chance >>> 16) % among : 0;
        }

        int key() {
            int men = at(cells, 0) | at(cells, 1) << 4;
            return men | at(left, 0) << 8 | at(left, 1) << 10 | teller << 12;
        }
    }

    /**
     * Who comes home, both telling and refusing as is best for them. A position is one number, its
     * key: by bits, the cells of both (4 each), the refusals left of both (2 each), who tells (1).
     */
    private static final class Reckoner {
        private static final int POSITIONS = 2 * 3 * 3 * MOST_CELLS * MOST_CELLS;
        private static final int TELLER = 1 << 12;

        // What was reckoned: the number of the reckoning times 4, and the value and 2.
        private final int[] known = new int[(MOST_AHEAD - 1) * POSITIONS];
        private final int[] laws = new int[MEN];
        private final int[] homes = new int[MEN];
        // An empty one at first, so that there is always one.
        private Plan plan = new Plan();
        private int reckoning;

        void begin(Plan asked, int law0, int law1) {
            plan = asked;
            reckoning++;
            put(laws, 0, law0);
            put(laws, 1, law1);
            setHomes(at(asked.homes, 0), at(asked.homes, 1));
        }

        void setHomes(int home0, int home1) {
            put(homes, 0, home0);
            put(homes, 1, home1);
        }

        static int cellIn(int key, int m) {
            return key >> 4 * m & 15;
        }

        static int leftIn(int key, int m) {
            return key >> 8 + 2 * m & 3;
        }

        static int tellerIn(int key) {
            return (key & TELLER) == 0 ? 0 : 1;
        }

        static int withCell(int key, int m, int c) {
            return key & ~(15 << 4 * m) | c << 4 * m;
        }

        static int withRefusals(int key, int m, int more) {
            return key + (more << 8 + 2 * m);
        }

        /** Both men with one another; who tells stays. */
        static int changedMen(int key) {
            int men = cellIn(key, 1) | cellIn(key, 0) << 4;
            return men | leftIn(key, 1) << 8 | leftIn(key, 0) << 10 | key & TELLER;
        }

        /** 1 if A tells, who wants more; -1 if B does, who wants less. */
        private static int wants(int key) {
            return tellerIn(key) == 0 ? 1 : -1;
        }

        /** The value within n steps, if nothing is barred. */
        private int valueIn(int key, int n) {
            if (n < 1 || n >= MOST_AHEAD) return 0;
            int place = placeOf(key, n);
            int entry = at(known, place);
            if (entry >> 2 == reckoning) return (entry & 3) - 2;
            int most = mostFrom(key, NONE, n);
            put(known, place, reckoning << 2 | most + 2);
            return most;
        }

        private static int placeOf(int key, int n) {
            int refusals = leftIn(key, 0) * 3 + leftIn(key, 1);
            return (((n - 1) * 2 + tellerIn(key)) * 9 + refusals) * (MOST_CELLS * MOST_CELLS) + (key & 255);
        }

        /** The value within n steps, if the teller may not tell what is barred; it passes if nothing else is left. */
        private int mostFrom(int key, int barred, int n) {
            if (n < 1 || n > MOST_AHEAD) return 0;
            int m = 1 - tellerIn(key);
            int may = withoutBit(plan.mayBits(at(laws, m), cellIn(key, m), cellIn(key, 1 - m)), barred);
            if (may == 0) return valueIn(key ^ TELLER, n - 1);
            boolean refusable = barred == NONE && leftIn(key, m) > 0;
            int wants = wants(key);
            int most = -1;
            for (int d = 0; d < DIRECTIONS && most < 1; d++) {
                // What a refusal can only make less need not be asked for.
                if (!hasBit(may, d) || wants * afterDone(key, d, n) <= most) continue;
                most = Math.max(most, wants * afterTold(key, d, refusable && withoutBit(may, d) != 0, n));
            }
            return wants * most;
        }

        /** The value if a direction is told, and refused if it may be and that is better for the man's owner. */
        private int afterTold(int key, int d, boolean refusable, int n) {
            int done = afterDone(key, d, n);
            int wants = wants(key);
            if (!refusable || done == -wants) return done;
            return wants * Math.min(wants * done, wants * afterRefused(key, d, n));
        }

        /** Whether the man's owner, who wants what the teller doesn't, gains if d, which may be refused, is. */
        boolean isBetterRefused(int key, int d, int n) {
            return wants(key) * afterRefused(key, d, n) < wants(key) * afterDone(key, d, n);
        }

        private int afterRefused(int key, int d, int n) {
            return mostFrom(withRefusals(key, 1 - tellerIn(key), -1), d, n);
        }

        private int afterDone(int key, int d, int n) {
            int m = 1 - tellerIn(key);
            int to = plan.leadsTo(at(laws, m), cellIn(key, m), d);
            if (to == NONE) return 0;
            int fate = plan.fateOn(to, at(homes, m));
            if (fate == IS_LOST) return wants(key);
            if (fate == COMES_HOME) return -wants(key);
            int next = withCell(key, m, to);
            return valueIn(fate == RINGS ? next : next ^ TELLER, n - 1);
        }
    }

    /** The text, and how it is read: byte by byte, token by token, item by item. */
    private static final class Script {
        private static final int BLANK = 32;
        // The items, by their words; pits, bells and walls bear the numbers of their cells.
        private static final int BOARD = 0, LAW = 4, MAN = 5, HOME = 6, USES = 7, REFUSES = 8;
        private static final int WORD = 0, NUMBER = 1, END = 2, FOREIGN = 3;
        private static final int NOWHERE_ALLOWED = 100;

        private final int[] bytes = new int[MOST_BYTES];
        private final int[] numbers = new int[DIRECTIONS + 1];
        private int length;
        private int place;
        private int tokenPlace;
        private int tokenKind;
        private int tokenValue;
        private int item;
        private int items;
        private int told;

        int append(long v, int n) {
            for (int i = n - 1; i >= 0; i--) {
                put(bytes, length, (int) (v >>> 8 * i) & 255);
                length++;
            }
            return length;
        }

        int drop() {
            int had = length;
            length = 0;
            return had;
        }

        /** Reads all into a plan: NONE, or the fault's place. */
        int readInto(Plan draft) {
            draft.setAtFirst(FIRST_SIDE, FIRST_SIDE);
            place = 0;
            items = 0;
            item = NONE;
            for (int i = 0; i < MOST_BYTES && nextToken(); i++) {
                if (!isTaken(draft)) return tokenPlace;
            }
            if (item != NONE) return length;
            draft.mapSteps();
            return NONE;
        }

        private int byteAt(int i) {
            return i < length ? at(bytes, i) : 0;
        }

        private static boolean isLetter(int b) {
            return b >= 'a' && b <= 'z';
        }

        private static boolean isDigit(int b) {
            return b >= '0' && b <= '9';
        }

        private boolean nextToken() {
            while (place < length && byteAt(place) == BLANK) place++;
            if (place >= length) return false;
            tokenPlace = place;
            int first = byteAt(place);
            if (isLetter(first)) takeWord();
            else if (isDigit(first)) takeNumber();
            else {
                place++;
                tokenKind = first == ';' ? END : FOREIGN;
            }
            return true;
        }

        private void takeWord() {
            while (place < length && isLetter(byteAt(place))) place++;
            tokenKind = WORD;
            tokenValue = itemNamed();
        }

        private void takeNumber() {
            int v = 0;
            while (place < length && isDigit(byteAt(place))) {
                v = Math.min(10 * v + byteAt(place) - '0', NOWHERE_ALLOWED);
                place++;
            }
            boolean zeroAhead = byteAt(tokenPlace) == '0' && place - tokenPlace > 1;
            tokenKind = NUMBER;
            tokenValue = zeroAhead ? NOWHERE_ALLOWED : v;
        }

        private int itemNamed() {
            if (spells("board")) return BOARD;
            if (spells("pit")) return PIT;
            if (spells("bell")) return BELL;
            if (spells("wall")) return WALL;
            if (spells("law")) return LAW;
            if (spells("man")) return MAN;
            if (spells("home")) return HOME;
            if (spells("uses")) return USES;
            return spells("refuses") ? REFUSES : NONE;
        }

        private boolean spells(String word) {
            if (word.length() != place - tokenPlace) return false;
            for (int i = 0; i < word.length(); i++) {
                if (word.charAt(i) != byteAt(tokenPlace + i)) return false;
            }
            return true;
        }

        /** Whether the token can stand where it is; if so, it is told to the plan. */
        private boolean isTaken(Plan draft) {
            if (item == NONE) return tokenKind == WORD && isBegun(draft);
            if (tokenKind == NUMBER) return isNumberTaken(draft);
            return tokenKind == END && isEnded(draft);
        }

        private boolean isBegun(Plan draft) {
            if (tokenValue == BOARD && items > 0) return false;
            if (tokenValue == LAW && draft.laws >= MOST_LAWS) return false;
            item = tokenValue;
            told = 0;
            return item != NONE;
        }

        private boolean isNumberTaken(Plan draft) {
            if (told >= numbers.length || !isAllowed(draft, tokenValue)) return false;
            put(numbers, told, tokenValue);
            told++;
            return true;
        }

        private boolean isAllowed(Plan draft, int v) {
            switch (item) {
                case BOARD: return told < 2 && v >= LEAST_SIDE && v <= MOST_SIDE;
                case PIT:
                case BELL:
                case WALL: return told == 0 ? v < draft.wide : told == 1 && v < draft.high;
                case LAW: return told == 0 ? v >= 1 && v <= MOST_FAR : v < DIRECTIONS && !isDirectionTold(v);
                case MAN: return isPlace(draft, v) && (told < 2 || isGround(draft, at(numbers, 1), v));
                case HOME: return isPlace(draft, v);
                case USES: return told == 0 ? v < MEN : told == 1 && v < draft.laws;
                case REFUSES: return told == 0 ? v < MEN : told == 1 && v <= MOST_REFUSALS;
                default: return false;
            }
        }

        private boolean isDirectionTold(int d) {
            for (int i = 1; i < told; i++) if (at(numbers, i) == d) return true;
            return false;
        }

        /** Whether a number may be next in M X Y. */
        private boolean isPlace(Plan draft, int v) {
            if (told == 0) return v < MEN;
            return told == 1 ? v < draft.wide : told == 2 && v < draft.high;
        }

        private static boolean isGround(Plan draft, int x, int y) {
            int kind = at(draft.kinds, draft.numberOf(x, y));
            return kind != PIT && kind != WALL;
        }

        private boolean isEnded(Plan draft) {
            if (item == LAW ? told < 2 : told != numbersOf(item)) return false;
            apply(draft, at(numbers, 0), at(numbers, 1), at(numbers, 2));
            items++;
            item = NONE;
            return true;
        }

        private static int numbersOf(int item) {
            return item == MAN || item == HOME ? 3 : 2;
        }

        private void apply(Plan draft, int first, int second, int third) {
            switch (item) {
                case BOARD: draft.setAtFirst(first, second); break;
                case LAW: applyLaw(draft, first); break;
                case MAN: put(draft.starts, first, draft.numberOf(second, third)); break;
                case HOME: put(draft.homes, first, draft.numberOf(second, third)); break;
                case USES: put(draft.uses, first, second); break;
                case REFUSES: put(draft.refusals, first, second); break;
                default: put(draft.kinds, draft.numberOf(first, second), item);
            }
        }

        private void applyLaw(Plan draft, int far) {
            int bits = 0;
            for (int i = 1; i < told; i++) bits |= 1 << at(numbers, i);
            put(draft.fars, draft.laws, far);
            put(draft.ways, draft.laws, bits);
            draft.laws++;
        }
    }
}
