import java.util.Arrays;

/** Quarrels by lent champions; the promises that are named here by number stand in the document. */
public final class LentChampions {
    public static final int UNKNOWN = -1, OUTSIDE = -2, STATE = -3, FULL = -4, NONE = -9;
    public static final long LOST = Long.MIN_VALUE;

    private static final int NULL = 1, CAST = 2, INDEX = 3, SIZE = 4;
    private static final int SHEETS = 4, SORTS = 3, KINDS = 3, SEASONS = 8, HIRES_IN_BOOK = 13;

    private final Land realm = new Land();
    private final Lending lending = new Lending();
    private final Trace steps = new Trace();
    private final Sheet[] sheets = new Sheet[SHEETS];
    private int latestFault = 0;

    public LentChampions() {
        for (int k = 0; k < SHEETS; k++) {
            sheets[k] = new Sheet();
        }
    }

    // ---- 1 the land

    public int land(int sheet, int sort, int i, int n) {
        latestFault = 0;
        Sheet from = sheetAt(sheet);
        if (from == null) {
            return UNKNOWN;
        }
        if (!below(sort, SORTS)) {
            return OUTSIDE;
        }
        int wrong = faultOfCells(from, sort, i, n, 1);
        if (wrong != 0) {
            return failed(wrong);
        }
        int place = Land.firstFault(from, i, n);
        if (place != NONE) {
            return -100 - place;
        }
        realm.settle(from, i, n);
        return realm.houses;
    }

    public int ofHouse(int h, int what) {
        Champion champion = realm.championOf(h);
        if (champion == null) {
            return UNKNOWN;
        }
        switch (what) {
            case 0: return champion.kind();
            case 1: return champion.strength;
            case 2: return realm.kinOf(h);
            default: return OUTSIDE;
        }
    }

    public int force(int h, int season) {
        Champion champion = realm.championOf(h);
        if (champion == null) {
            return UNKNOWN;
        }
        return below(season, SEASONS) ? champion.forceIn(season) : OUTSIDE;
    }

    public long beats(int h, int other, int season, int which) {
        if (!realm.areTwo(h, other) || !below(season, SEASONS) || !below(which, 2)) {
            return LOST;
        }
        Champion one = realm.championOf(h);
        Champion two = realm.championOf(other);
        return part(Land.winsUpper(one, two, season), Land.winsLower(one, two, season), which);
    }

    public int kin(int h, int other, boolean is) {
        if (!realm.areTwo(h, other)) {
            return UNKNOWN;
        }
        return realm.tellKin(h, other, is) ? 1 : 0;
    }

    public int early(int h, int other, int season) {
        Champion one = realm.championOf(h);
        Champion two = realm.championOf(other);
        if (one == null || two == null) {
            return UNKNOWN;
        }
        if (!below(season, SEASONS)) {
            return OUTSIDE;
        }
        int count = 0;
        for (int s = season; s < SEASONS; s++) {
            if (one.forceIn(s) >= two.forceIn(s)) {
                count++;
            }
        }
        return count;
    }

    // ---- 2 quarrels

    public int quarrel(int a, int b, int stake, int season) {
        if (!realm.areTwo(a, b)) {
            return UNKNOWN;
        }
        if (stake < 1 || stake > 99 || !below(season, SEASONS)) {
            return OUTSIDE;
        }
        if (realm.quarrels >= Land.MOST_QUARRELS) {
            return FULL;
        }
        return realm.addQuarrel(a, b, stake, season);
    }

    public int ofQuarrel(int q, int what) {
        if (!realm.hasQuarrel(q)) {
            return UNKNOWN;
        }
        switch (what) {
            case 0: return realm.sides[2 * q];
            case 1: return realm.sides[2 * q + 1];
            case 2: return realm.stakes[q];
            case 3: return realm.seasons[q];
            case 4: return realm.hired[2 * q];
            case 5: return realm.hired[2 * q + 1];
            default: return OUTSIDE;
        }
    }

    public int may(int q, int side) {
        if (!realm.hasQuarrel(q)) {
            return UNKNOWN;
        }
        return below(side, 2) ? realm.whoFits(realm.hired, 2 * q + side) : OUTSIDE;
    }

    public int hire(int q, int side, int h) {
        if (!realm.hasQuarrel(q) || h != NONE && !realm.hasHouse(h)) {
            return UNKNOWN;
        }
        if (!below(side, 2)) {
            return OUTSIDE;
        }
        int place = 2 * q + side;
        if (h != NONE && !realm.fits(realm.hired, realm.kins, place, h)) {
            return STATE;
        }
        int before = realm.hired[place];
        realm.hired[place] = h;
        return before;
    }

    public long odds(int q, int side, int which) {
        if (!realm.hasQuarrel(q) || !below(side, 2) || !below(which, 2)) {
            return LOST;
        }
        int place = 2 * q + side;
        Champion mine = realm.championOf(realm.hired[place]);
        Champion theirs = realm.championOf(realm.hired[place ^ 1]);
        int season = realm.seasons[q];
        return part(Land.winsUpper(mine, theirs, season), Land.winsLower(mine, theirs, season), which);
    }

    public long worth(int q, int side, int which) {
        if (!realm.hasQuarrel(q) || !below(side, 2) || !below(which, 2)) {
            return LOST;
        }
        return part(realm.worthAt(realm.hired, 2 * q + side), Land.WORTH_UNIT, which);
    }

    public long worthTo(int h, int which) {
        if (!realm.hasHouse(h) || !below(which, 2)) {
            return LOST;
        }
        return part(realm.worthOfAll(realm.hired, h), Land.WORTH_UNIT, which);
    }

    // ---- 3 the best, peace

    public int best(int h, int season, int q) {
        if (!realm.hasHouse(h) || !realm.hasQuarrel(q)) {
            return UNKNOWN;
        }
        if (!below(season, SEASONS)) {
            return OUTSIDE;
        }
        if (realm.sides[2 * q] != h && realm.sides[2 * q + 1] != h || realm.seasons[q] != season) {
            return STATE;
        }
        realm.seekBest(lending, h, season);
        return lending.chosenFor(realm.sides[2 * q] == h ? 2 * q : 2 * q + 1);
    }

    public long bestWorth(int h, int season, int which) {
        if (!realm.hasHouse(h) || !below(season, SEASONS) || !below(which, 2)) {
            return LOST;
        }
        realm.seekBest(lending, h, season);
        return part(lending.total(), Land.WORTH_UNIT, which);
    }

    public long peace(int q, int what) {
        if (!realm.hasQuarrel(q) || !below(what, 3)) {
            return LOST;
        }
        long least = -Math.floorDiv(-realm.worthAt(realm.hired, 2 * q), Land.WORTH_UNIT);
        long greatest = Math.floorDiv(-realm.worthAt(realm.hired, 2 * q + 1), Land.WORTH_UNIT);
        if (what == 0) {
            return Math.max(0L, greatest - least + 1);
        }
        if (least > greatest) {
            return LOST;
        }
        return what == 1 ? least : greatest;
    }

    public int most(int season, int k) {
        if (!below(season, SEASONS)) {
            return OUTSIDE;
        }
        if (k < -1) {
            return UNKNOWN;
        }
        realm.seekMost(lending, season);
        return k == -1 ? (int) lending.total() : lending.chosenAt(k);
    }

    // ---- 4 books, changes

    public int book(int sheet, int sort, int i, int n) {
        latestFault = 0;
        Sheet from = sheetAt(sheet);
        if (from == null) {
            return UNKNOWN;
        }
        if (!below(sort, SORTS)) {
            return OUTSIDE;
        }
        int wrong = faultOfCells(from, sort, i, n, 3);
        if (wrong != 0) {
            return failed(wrong);
        }
        // No row has cells for 14 HIRES, so INDEX is always come to first; kept as the document's last refusal.
        if (n > HIRES_IN_BOOK) {
            return OUTSIDE;
        }
        return realm.firstUnlawful(from, i, n);
    }

    public int changes() {
        int set = 0;
        for (int place = 0; place < 2 * realm.quarrels; place++) {
            if (realm.wouldChange(place)) {
                set |= 1 << place;
            }
        }
        return set;
    }

    public int likeliest(int w, int n) {
        if (n < 1 || n > 8 || w < 0 || w > n) {
            return OUTSIDE;
        }
        // How many orders the wins come in is the same for all pairs, so it is left out.
        int answer = 0;
        long upper = 0;
        long lower = 1;
        for (int a = 1; a <= 9; a++) {
            for (int b = 1; b <= 9; b++) {
                long thisUpper = power(a, w) * power(b, n - w);
                long thisLower = power(a + b, n);
                // At most 9^8 times 18^8, which a long holds.
                if (thisUpper * lower > upper * thisLower) {
                    upper = thisUpper;
                    lower = thisLower;
                    answer = 10 * a + b;
                }
            }
        }
        return answer;
    }

    // ---- 5 marriages

    public long married(int h, int other, int which) {
        if (!realm.areTwo(h, other) || !below(which, 2)) {
            return LOST;
        }
        long then = realm.worthIfMarried(h, other);
        return part(then - realm.worthOfAll(realm.hired, h), Land.WORTH_UNIT, which);
    }

    // ---- 6 sheets, parts

    public int sheet(int k, int sort, int n) {
        latestFault = 0;
        Sheet at = sheetAt(k);
        if (at == null) {
            return UNKNOWN;
        }
        if (!below(sort, SORTS) || n > Sheet.MOST_CELLS) {
            return OUTSIDE;
        }
        if (n < 0) {
            return failed(SIZE);
        }
        at.renew(sort, n);
        return 1;
    }

    public int lose(int k) {
        Sheet at = sheetAt(k);
        if (at == null) {
            return UNKNOWN;
        }
        if (at.hasNothing()) {
            return 0;
        }
        at.empty();
        return 1;
    }

    public int put(int k, int i, int v) {
        latestFault = 0;
        Sheet at = sheetAt(k);
        if (at == null) {
            return UNKNOWN;
        }
        if (at.hasNothing()) {
            return failed(NULL);
        }
        if (!below(i, at.length)) {
            return failed(INDEX);
        }
        at.write(i, v);
        return 1;
    }

    public long cell(int k, int i, int sort) {
        latestFault = 0;
        Sheet at = sheetAt(k);
        if (at == null || !below(sort, SORTS)) {
            return LOST;
        }
        latestFault = faultOfCells(at, sort, i, 1, 1);
        return latestFault == 0 ? at.read(i) : LOST;
    }

    public int copy(int k, int i, int other, int j, int n) {
        latestFault = 0;
        Sheet from = sheetAt(k);
        Sheet to = sheetAt(other);
        if (from == null || to == null) {
            return UNKNOWN;
        }
        if (from.hasNothing() || to.hasNothing()) {
            return failed(NULL);
        }
        if (from.sort != to.sort) {
            return failed(CAST);
        }
        if (n < 0 || !from.hasCells(i, n) || !to.hasCells(j, n)) {
            return failed(INDEX);
        }
        System.arraycopy(from.cells, i, to.cells, j, n);
        return n;
    }

    public int tell(int h) {
        Champion champion = realm.championOf(h);
        return champion == null ? UNKNOWN : champion.telling(steps);
    }

    public int call(int h) {
        Champion champion = realm.championOf(h);
        return champion == null ? UNKNOWN : champion.calling(steps);
    }

    public int as(int h, int kind) {
        latestFault = 0;
        Champion champion = realm.championOf(h);
        if (champion == null) {
            return UNKNOWN;
        }
        if (!below(kind, KINDS)) {
            return OUTSIDE;
        }
        boolean is = kind == 0 || kind == 1 && champion instanceof Old || champion instanceof Sworn;
        return is ? 1 : failed(CAST);
    }

    public int trace() {
        return steps.mark;
    }

    public int fault() {
        return latestFault;
    }

    public int many(int what) {
        switch (what) {
            case 0: return realm.houses;
            case 1: return realm.quarrels;
            case 2: return realm.placesHired();
            default: return OUTSIDE;
        }
    }

    // ---- what the calls have in common

    private static boolean below(int number, int end) {
        return number >= 0 && number < end;
    }

    private Sheet sheetAt(int k) {
        return below(k, SHEETS) ? sheets[k] : null;
    }

    private int failed(int which) {
        latestFault = which;
        return -10 - which;
    }

    /** The first FAULT of n times width cells from i on, taken as a row of a SORT; 0: none. */
    private static int faultOfCells(Sheet from, int sort, int i, int n, int width) {
        if (from.hasNothing()) {
            return NULL;
        }
        if (from.sort != sort) {
            return CAST;
        }
        if (n < 0) {
            return SIZE;
        }
        return from.hasCells(i, (long) width * n) ? 0 : INDEX;
    }

    /** The upper (0) or lower (1) number of a share in least terms. */
    private static long part(long upper, long lower, int which) {
        long common = greatestCommon(Math.abs(upper), lower);
        if (common <= 0) {
            return LOST;
        }
        return which == 0 ? upper / common : lower / common;
    }

    private static long greatestCommon(long a, long b) {
        long greater = a;
        long less = b;
        // Each second turn halves a number, so two hundred are enough for any two longs.
        for (int turn = 0; turn < 200 && less != 0; turn++) {
            long rest = greater % less;
            greater = less;
            less = rest;
        }
        return greater;
    }

    private static long power(int base, int exponent) {
        long product = 1;
        for (int turn = 0; turn < exponent; turn++) {
            product *= base;
        }
        return product;
    }

    /** An int that keeps which bodies have begun, in their order. */
    private static final class Trace {
        private int mark = 0;

        void leave(int body) {
            mark = 31 * mark + body;
        }
    }

    /** Whoever is lent is called by the number of his HOUSE, unless he has a body of his own. */
    private interface Lent {
        int home();

        default int calling(Trace trace) {
            trace.leave(4);
            return home();
        }
    }

    private static class Champion implements Lent {
        private final int house;
        final int strength;

        Champion(int house, int strength) {
            this.house = house;
            this.strength = strength;
        }

        @Override
        public int home() {
            return house;
        }

        int kind() {
            return 0;
        }

        int forceIn(int season) {
            return strength;
        }

        int telling(Trace trace) {
            return plainTelling(trace);
        }

        /** Apart from telling, since a SWORN one comes to this body past OLD's. */
        final int plainTelling(Trace trace) {
            trace.leave(1);
            return strength;
        }
    }

    private static class Old extends Champion {
        Old(int house, int strength) {
            super(house, strength);
        }

        @Override
        int kind() {
            return 1;
        }

        @Override
        int forceIn(int season) {
            return Math.max(1, strength - season);
        }

        @Override
        int telling(Trace trace) {
            trace.leave(2);
            return super.telling(trace) + 100;
        }
    }

    private static final class Sworn extends Old {
        Sworn(int house, int strength) {
            super(house, strength);
        }

        @Override
        int kind() {
            return 2;
        }

        @Override
        int telling(Trace trace) {
            trace.leave(3);
            int asOld = super.telling(trace);
            return asOld + plainTelling(trace);
        }

        @Override
        public int calling(Trace trace) {
            trace.leave(5);
            return 70;
        }
    }

    /** Its cells are made once and used again, so that many new rows cost no room. */
    private static final class Sheet {
        static final int MOST_CELLS = 40;
        private static final int NOTHING = -1;

        private final int[] cells = new int[MOST_CELLS];
        private int sort = NOTHING;
        private int length = 0;

        boolean hasNothing() {
            return sort == NOTHING;
        }

        void empty() {
            sort = NOTHING;
            length = 0;
        }

        void renew(int newSort, int newLength) {
            sort = newSort;
            length = Math.max(0, Math.min(newLength, MOST_CELLS));
            Arrays.fill(cells, 0);
        }

        /** count is a long, since three times an int may be beyond ints. */
        boolean hasCells(int from, long count) {
            return from >= 0 && from <= length && count <= length - from;
        }

        int read(int i) {
            return i >= 0 && i < length ? cells[i] : 0;
        }

        void write(int i, int v) {
            if (i < 0 || i >= length) {
                return;
            }
            if (sort == 0) {
                cells[i] = (byte) v;
            } else if (sort == 1) {
                cells[i] = (short) v;
            } else {
                cells[i] = v;
            }
        }
    }

    /** HOUSES, KIN and QUARRELS; side s of QUARREL q is place 2 q + s, so place ^ 1 is the other side. */
    private static final class Land {
        static final int MOST_HOUSES = 6, MOST_QUARRELS = 8, PLACES = 16;
        /** The least number that 1 .. 18 divide: 18 is the most that two FORCES make together. */
        private static final long ODDS_UNIT = 12252240L;
        /** WORTH is counted in parts of this, so that all sums of it are whole. */
        static final long WORTH_UNIT = 10L * ODDS_UNIT;

        private final Champion[] champions = new Champion[MOST_HOUSES];
        private final int[] kins = new int[MOST_HOUSES];
        private final int[] sides = new int[PLACES];
        private final int[] hired = new int[PLACES];
        private final int[] stakes = new int[MOST_QUARRELS];
        private final int[] seasons = new int[MOST_QUARRELS];
        private int houses = 0;
        private int quarrels = 0;

        /** HIRES and KIN as they would be, for questions that change nothing. */
        private final int[] hiredThen = new int[PLACES];
        private final int[] kinsThen = new int[MOST_HOUSES];

        /** The FIRST FAULT of a TEXT; NONE: it is taken. */
        static int firstFault(Sheet text, int i, int n) {
            for (int p = 0; p < n; p++) {
                if (!goesOn(p, text.read(i + p))) {
                    return p;
                }
            }
            return n >= 5 && n % 3 == 2 ? NONE : n;
        }

        private static boolean goesOn(int p, int code) {
            switch (p % 3) {
                case 0: return code == 'c' || code == 'o' || code == 's';
                case 1: return code >= '1' && code <= '9';
                default: return code == ';' && p < 3 * MOST_HOUSES - 1;
            }
        }

        /** Only for a TEXT without a FIRST FAULT. */
        void settle(Sheet text, int i, int n) {
            houses = Math.min((n + 1) / 3, MOST_HOUSES);
            quarrels = 0;
            for (int h = 0; h < houses; h++) {
                int strength = text.read(i + 3 * h + 1) - '0';
                champions[h] = newChampion(text.read(i + 3 * h), h, strength);
                kins[h] = 1 << h;
            }
        }

        private static Champion newChampion(int letter, int h, int strength) {
            if (letter == 's') {
                return new Sworn(h, strength);
            }
            return letter == 'o' ? new Old(h, strength) : new Champion(h, strength);
        }

        boolean hasHouse(int h) {
            return h >= 0 && h < houses;
        }

        boolean areTwo(int h, int other) {
            return hasHouse(h) && hasHouse(other) && h != other;
        }

        boolean hasQuarrel(int q) {
            return q >= 0 && q < quarrels;
        }

        /** null: there is no such HOUSE (NONE is none, too). */
        Champion championOf(int h) {
            return hasHouse(h) ? champions[h] : null;
        }

        int kinOf(int h) {
            return hasHouse(h) ? kins[h] : 0;
        }

        boolean tellKin(int h, int other, boolean is) {
            boolean was = (kins[h] >> other & 1) == 1;
            if (was == is) {
                return false;
            }
            kins[h] ^= 1 << other;
            kins[other] ^= 1 << h;
            return true;
        }

        int addQuarrel(int a, int b, int stake, int season) {
            int q = quarrels;
            sides[2 * q] = a;
            sides[2 * q + 1] = b;
            hired[2 * q] = NONE;
            hired[2 * q + 1] = NONE;
            stakes[q] = stake;
            seasons[q] = season;
            quarrels = q + 1;
            return q;
        }

        int placesHired() {
            int count = 0;
            for (int place = 0; place < 2 * quarrels; place++) {
                if (hired[place] != NONE) {
                    count++;
                }
            }
            return count;
        }

        /** A HOUSE MAY be HIRED for a place, by the HIRES and KIN that are handed in. */
        boolean fits(int[] hires, int[] kinSets, int place, int h) {
            boolean isKin = (kinSets[sides[place ^ 1]] >> h & 1) == 1;
            return h != sides[place] && !isKin && !isElsewhere(hires, place, h);
        }

        private boolean isElsewhere(int[] hires, int place, int h) {
            int season = seasons[place / 2];
            for (int p = 0; p < 2 * quarrels; p++) {
                if (p != place && hires[p] == h && seasons[p / 2] == season) {
                    return true;
                }
            }
            return false;
        }

        int whoFits(int[] hires, int place) {
            int set = 0;
            for (int h = 0; h < houses; h++) {
                if (fits(hires, kins, place, h)) {
                    set |= 1 << h;
                }
            }
            return set;
        }

        /** null stands for no CHAMPION; upper and lower number are not in least terms. */
        static int winsUpper(Champion mine, Champion theirs, int season) {
            if (mine == null) {
                return theirs == null ? 1 : 0;
            }
            if (theirs == null || mine instanceof Sworn && theirs instanceof Sworn) {
                return 1;
            }
            return mine.forceIn(season);
        }

        static int winsLower(Champion mine, Champion theirs, int season) {
            if (mine == null || theirs == null) {
                return mine == null && theirs == null ? 2 : 1;
            }
            if (mine instanceof Sworn && theirs instanceof Sworn) {
                return 2;
            }
            return mine.forceIn(season) + theirs.forceIn(season);
        }

        /** WORTH to the side of a place if it had HIRED mine and the other side theirs. */
        long worthWith(int place, int mine, int theirs) {
            Champion one = championOf(mine);
            Champion two = championOf(theirs);
            int season = seasons[place / 2];
            long upper = winsUpper(one, two, season);
            long lower = winsLower(one, two, season);
            if (lower <= 0) {
                return 0;
            }
            long tenths = 10 * (2 * upper - lower) - (one == null ? 0 : upper);
            return stakes[place / 2] * tenths * (ODDS_UNIT / lower);
        }

        long worthAt(int[] hires, int place) {
            return worthWith(place, hires[place], hires[place ^ 1]);
        }

        long worthOfAll(int[] hires, int h) {
            long sum = 0;
            for (int place = 0; place < 2 * quarrels; place++) {
                if (sides[place] == h) {
                    sum += worthAt(hires, place);
                }
            }
            return sum;
        }

        void seekBest(Lending lending, int h, int season) {
            for (int place = 0; place < 2 * quarrels; place++) {
                boolean own = sides[place] == h && seasons[place / 2] == season;
                hiredThen[place] = own ? NONE : hired[place];
            }
            lending.begin(houses);
            for (int place = 0; place < 2 * quarrels; place++) {
                if (sides[place] == h && seasons[place / 2] == season) {
                    offerByWorth(lending, place);
                }
            }
            lending.settle();
        }

        private void offerByWorth(Lending lending, int place) {
            int theirs = hiredThen[place ^ 1];
            int set = whoFits(hiredThen, place);
            lending.addPlace(place, set, worthWith(place, NONE, theirs));
            for (int h = 0; h < houses; h++) {
                if ((set >> h & 1) == 1) {
                    lending.offer(h, worthWith(place, h, theirs));
                }
            }
        }

        void seekMost(Lending lending, int season) {
            Arrays.fill(hiredThen, NONE);
            lending.begin(houses);
            for (int place = 0; place < 2 * quarrels; place++) {
                if (seasons[place / 2] == season) {
                    lending.addPlace(place, whoFits(hiredThen, place), 0);
                    for (int h = 0; h < houses; h++) {
                        lending.offer(h, 1);
                    }
                }
            }
            lending.settle();
        }

        /** The first HIRE of a BOOK that MAY not be; NONE: all may. */
        int firstUnlawful(Sheet from, int i, int n) {
            Arrays.fill(hiredThen, NONE);
            for (int k = 0; k < n; k++) {
                int at = i + 3 * k;
                if (!entered(from.read(at), from.read(at + 1), from.read(at + 2))) {
                    return k;
                }
            }
            return NONE;
        }

        private boolean entered(int q, int side, int h) {
            if (!hasQuarrel(q) || side < 0 || side > 1 || !hasHouse(h)) {
                return false;
            }
            int place = 2 * q + side;
            if (hiredThen[place] != NONE || !fits(hiredThen, kins, place, h)) {
                return false;
            }
            hiredThen[place] = h;
            return true;
        }

        boolean wouldChange(int place) {
            int theirs = hired[place ^ 1];
            long now = worthAt(hired, place);
            if (worthWith(place, NONE, theirs) > now) {
                return true;
            }
            int set = whoFits(hired, place);
            for (int h = 0; h < houses; h++) {
                if ((set >> h & 1) == 1 && worthWith(place, h, theirs) > now) {
                    return true;
                }
            }
            return false;
        }

        long worthIfMarried(int h, int other) {
            System.arraycopy(hired, 0, hiredThen, 0, PLACES);
            System.arraycopy(kins, 0, kinsThen, 0, MOST_HOUSES);
            kinsThen[h] |= 1 << other;
            kinsThen[other] |= 1 << h;
            for (int place = 0; place < 2 * quarrels; place++) {
                if (hasHouse(hired[place]) && !fits(hired, kinsThen, place, hired[place])) {
                    hiredThen[place] = NONE;
                }
            }
            return worthOfAll(hiredThen, h);
        }
    }

    /**
     * Who is lent where, each CHAMPION once at most, so that all gains together are the greatest;
     * of several such rows the first, with nobody behind every HOUSE.
     */
    private static final class Lending {
        private static final int MASKS = 64, OPTIONS = 7, NOBODY = 6;

        private final int[] places = new int[Land.PLACES];
        private final int[] fitting = new int[Land.PLACES];
        private final int[] chosen = new int[Land.PLACES];
        private final long[] gains = new long[Land.PLACES * OPTIONS];
        /** The most that the places from one on gain, by the set of who is lent ahead of it. */
        private final long[] reach = new long[(Land.PLACES + 1) * MASKS];
        private int count = 0;
        private int masks = 1;

        void begin(int houses) {
            count = 0;
            masks = houses >= 0 && houses <= Land.MOST_HOUSES ? 1 << houses : MASKS;
        }

        void addPlace(int place, int set, long gainOfNobody) {
            if (count >= Land.PLACES) {
                return;
            }
            places[count] = place;
            fitting[count] = set;
            gains[count * OPTIONS + NOBODY] = gainOfNobody;
            count++;
        }

        /** What the place that was added last gains by a HOUSE's CHAMPION. */
        void offer(int h, long gain) {
            if (count > 0 && h >= 0 && h < NOBODY) {
                gains[(count - 1) * OPTIONS + h] = gain;
            }
        }

        void settle() {
            for (int mask = 0; mask < masks; mask++) {
                reach[count * MASKS + mask] = 0;
            }
            for (int p = count - 1; p >= 0; p--) {
                for (int mask = 0; mask < masks; mask++) {
                    // Ahead of place p no more than p CHAMPIONS can have been lent.
                    if (Integer.bitCount(mask) <= p) {
                        reach[p * MASKS + mask] = greatestFrom(p, mask);
                    }
                }
            }
            choose();
        }

        /** The dearest loop of all calls, so it reads its rows itself. */
        private long greatestFrom(int p, int mask) {
            int row = p * OPTIONS;
            int next = (p + 1) * MASKS;
            int free = fitting[p] & ~mask;
            long greatest = gains[row + NOBODY] + reach[next + mask];
            for (int h = 0; h < NOBODY; h++) {
                if ((free >> h & 1) == 1) {
                    long gain = gains[row + h] + reach[next + (mask | 1 << h)];
                    if (gain > greatest) {
                        greatest = gain;
                    }
                }
            }
            return greatest;
        }

        private void choose() {
            int mask = 0;
            for (int p = 0; p < count; p++) {
                int option = firstReaching(p, mask);
                chosen[p] = option == NOBODY ? NONE : option;
                if (option != NOBODY) {
                    mask |= 1 << option;
                }
            }
        }

        private int firstReaching(int p, int mask) {
            int next = (p + 1) * MASKS;
            int free = fitting[p] & ~mask;
            for (int h = 0; h < NOBODY; h++) {
                boolean can = (free >> h & 1) == 1;
                if (can && gains[p * OPTIONS + h] + reach[next + (mask | 1 << h)] == reach[p * MASKS + mask]) {
                    return h;
                }
            }
            return NOBODY;
        }

        long total() {
            return reach[0];
        }

        int chosenAt(int k) {
            return k >= 0 && k < count ? chosen[k] : NONE;
        }

        int chosenFor(int place) {
            for (int k = 0; k < count; k++) {
                if (places[k] == place) {
                    return chosen[k];
                }
            }
            return NONE;
        }
    }
}
