import java.util.Arrays;

/**
 * Every call with every mixture of good and bad numbers, edges ahead of all, in several states: the REFUSAL or FAULT
 * that the call's line tells first is the answer; fault() is as told behind it; and all that can be read of the
 * object is as it was. The same holds for questions that are answered.
 */
public final class RefusalsTest {
    private static final int U = LentChampions.UNKNOWN, O = LentChampions.OUTSIDE, S = LentChampions.STATE,
        F = LentChampions.FULL, NONE = LentChampions.NONE;
    private static final long LOST = LentChampions.LOST;
    private static final int NULL = -11, CAST = -12, INDEX = -13, SIZE = -14;
    private static final int MIN = Integer.MIN_VALUE, MAX = Integer.MAX_VALUE;
    /** The FAULT that stands ahead of each call: INDEX; none of the calls under test comes to it unasked. */
    private static final int STANDING = 3;

    private static final int[] WIDE = {MIN, MIN + 1, -65536, -256, -32, -10, NONE, -8, -4, -3, -2, -1, 0, 1, 2, 3, 4, 5, 6,
        7, 8, 9, 16, 31, 32, 33, 64, 256, 65536, MAX - 1, MAX};
    private static final int[] FEW = {MIN, NONE, -1, 0, 1, 2, 3, 4, 5, 6, 7, 8, 32, 256, MAX};
    private static final int[] SHEETS = {MIN, -1, 0, 1, 2, 3, 4, 256, MAX};
    private static final int[] SORTS = {MIN, -1, 0, 1, 2, 3, 256, MAX};
    private static final int[] PLACES = {MIN, -1, 0, 1, 2, 3, 4, 39, 40, 41, MAX};
    private static final int[] COUNTS = {MIN, -1, 0, 1, 2, 12, 13, 14, 40, 41, 1431655766, 1431655778, MAX};

    private static int wrong = 0;
    private static long asked = 0;

    private interface Call {
        long on(LentChampions x);
    }

    /** What an object is brought to, told so that the test knows it without asking. */
    private static final class World {
        final String name;
        final String text;
        final int[] sorts;
        final int[] lengths;
        final int[][] quarrels;
        final int[][] kin;
        final int[][] hires;
        final long[] before;

        World(String name, String text, int[] sorts, int[] lengths, int[][] quarrels, int[][] kin, int[][] hires) {
            this.name = name;
            this.text = text;
            this.sorts = sorts;
            this.lengths = lengths;
            this.quarrels = quarrels;
            this.kin = kin;
            this.hires = hires;
            this.before = read(make());
        }

        int houses() {
            return text.isEmpty() ? 0 : (text.length() + 1) / 3;
        }

        LentChampions make() {
            LentChampions x = new LentChampions();
            if (!text.isEmpty()) {
                x.sheet(0, 0, text.length());
                for (int i = 0; i < text.length(); i++) {
                    x.put(0, i, text.charAt(i));
                }
                x.land(0, 0, 0, text.length());
                x.lose(0);
            }
            for (int[] q : quarrels) {
                x.quarrel(q[0], q[1], q[2], q[3]);
            }
            for (int[] h : hires) {
                x.hire(h[0], h[1], h[2]);
            }
            for (int[] k : kin) {
                x.kin(k[0], k[1], true);
            }
            for (int k = 0; k < 4; k++) {
                if (sorts[k] >= 0) {
                    x.sheet(k, sorts[k], lengths[k]);
                    for (int i = 0; i < Math.min(lengths[k], 3); i++) {
                        x.put(k, i, 10 * k + i + 1);
                    }
                }
            }
            x.tell(0);
            x.put(k(), lengths[k()], 0);
            return x;
        }

        /** A SHEET with a row, by which INDEX comes to stand as fault(); 0, if there is none. */
        private int k() {
            for (int k = 0; k < 4; k++) {
                if (sorts[k] >= 0) {
                    return k;
                }
            }
            return 0;
        }

        int standing() {
            return sorts[k()] >= 0 ? STANDING : 1;
        }

        long[] read(LentChampions x) {
            long[] row = new long[2 + 3 + 18 + 48 + 4 * 41];
            int at = 0;
            row[at++] = x.fault();
            row[at++] = x.trace();
            for (int what = 0; what < 3; what++) {
                row[at++] = x.many(what);
            }
            for (int h = 0; h < houses(); h++) {
                for (int what = 0; what < 3; what++) {
                    row[at++] = x.ofHouse(h, what);
                }
            }
            for (int q = 0; q < quarrels.length; q++) {
                for (int what = 0; what < 6; what++) {
                    row[at++] = x.ofQuarrel(q, what);
                }
            }
            for (int k = 0; k < 4; k++) {
                for (int i = 0; i <= Math.max(0, lengths[k]); i++) {
                    row[at++] = x.cell(k, i, Math.max(0, sorts[k]));
                }
            }
            return Arrays.copyOf(row, at);
        }

        boolean house(int h) {
            return h >= 0 && h < houses();
        }

        boolean two(int h, int other) {
            return house(h) && house(other) && h != other;
        }

        boolean quarrel(int q) {
            return q >= 0 && q < quarrels.length;
        }

        boolean nothing(int k) {
            return sorts[k] < 0;
        }

        boolean cells(int k, int i, long n) {
            return n >= 0 && i >= 0 && i <= lengths[k] && i + n <= lengths[k];
        }

        boolean mayBe(int q, int side, int h) {
            int[] quarrel = quarrels[q];
            if (h == quarrel[side] || h == quarrel[1 - side]) {
                return false;
            }
            for (int[] pair : kin) {
                if (pair[0] == h && pair[1] == quarrel[1 - side] || pair[1] == h && pair[0] == quarrel[1 - side]) {
                    return false;
                }
            }
            for (int[] hire : hires) {
                boolean here = hire[0] == q && hire[1] == side;
                if (hire[2] == h && !here && quarrels[hire[0]][3] == quarrel[3]) {
                    return false;
                }
            }
            return true;
        }
    }

    private static void wrong(World w, String call, String what) {
        wrong++;
        if (wrong <= 50) {
            System.out.println(w.name + ": " + call + " " + what);
        }
    }

    /** The first refusal of those whose condition holds, in the order handed in; 0: none. */
    private static int first(Object... line) {
        for (int k = 0; k < line.length; k += 2) {
            if ((Boolean) line[k]) {
                return (Integer) line[k + 1];
            }
        }
        return 0;
    }

    private static boolean not(int number, int end) {
        return number < 0 || number >= end;
    }

    /** A call that names no FAULTS. */
    private static void plain(World w, String call, boolean longs, int refusal, boolean question, Call c) {
        look(w, call, longs, refusal, question, w.standing(), c);
    }

    /** A call that names FAULTS. */
    private static void faulty(World w, String call, boolean longs, int refusal, boolean question, Call c) {
        look(w, call, longs, refusal, question, refusal <= NULL ? -10 - refusal : 0, c);
    }

    private static void look(World w, String call, boolean longs, int refusal, boolean question, int fault, Call c) {
        LentChampions x = w.make();
        long got = c.on(x);
        asked++;
        if (refusal != 0) {
            long want = longs ? LOST : refusal;
            if (got != want) {
                wrong(w, call, "answered " + got + ", due is " + want);
            }
        } else if (longs ? got == LOST : got < 0 && got != NONE && got > -100) {
            wrong(w, call, "answered " + got + ", but is not refused");
        }
        long[] after = w.read(x);
        if (after[0] != fault) {
            wrong(w, call, "left fault() " + after[0] + ", due is " + fault);
        }
        if (refusal != 0 || question) {
            after[0] = w.before[0];
            if (!Arrays.equals(after, w.before)) {
                wrong(w, call, "changed something: " + Arrays.toString(w.before) + " became " + Arrays.toString(after));
            }
        }
    }

    private static void lands(World w) {
        for (int k : SHEETS) {
            for (int sort : SORTS) {
                for (int i : PLACES) {
                    for (int n : COUNTS) {
                        boolean known = !not(k, 4);
                        String told = "(" + k + ", " + sort + ", " + i + ", " + n + ")";
                        // In the order that the lines of land and book tell.
                        int land = first(!known, U, not(sort, 3), O, known && !w.nothing(k) && w.sorts[k] != sort, CAST,
                            known && w.nothing(k), NULL, n < 0, SIZE, known && !w.cells(k, i, n), INDEX);
                        faulty(w, "land" + told, false, land, true, x -> x.land(k, sort, i, n));
                        int book = first(!known, U, not(sort, 3), O, known && !w.nothing(k) && w.sorts[k] != sort, CAST,
                            known && w.nothing(k), NULL, n < 0, SIZE, known && !w.cells(k, i, 3L * n), INDEX, n > 13, O);
                        faulty(w, "book" + told, false, book, true, x -> x.book(k, sort, i, n));
                    }
                }
            }
        }
    }

    private static void houses(World w) {
        for (int h : WIDE) {
            boolean no = !w.house(h);
            plain(w, "tell(" + h + ")", false, first(no, U), false, x -> x.tell(h));
            plain(w, "call(" + h + ")", false, first(no, U), false, x -> x.call(h));
            for (int b : WIDE) {
                String told = "(" + h + ", " + b + ")";
                plain(w, "ofHouse" + told, false, first(no, U, not(b, 3), O), true, x -> x.ofHouse(h, b));
                plain(w, "force" + told, false, first(no, U, not(b, 8), O), true, x -> x.force(h, b));
                plain(w, "kin true" + told, false, first(!w.two(h, b), U), false, x -> x.kin(h, b, true));
                plain(w, "kin false" + told, false, first(!w.two(h, b), U), false, x -> x.kin(h, b, false));
                plain(w, "worthTo" + told, true, first(no, U, not(b, 2), O), true, x -> x.worthTo(h, b));
                int as = first(no, U, not(b, 3), O, !no && b > kind(w, h), CAST);
                faulty(w, "as" + told, false, as, true, x -> x.as(h, b));
            }
        }
    }

    private static int kind(World w, int h) {
        return "cos".indexOf(w.text.charAt(3 * h));
    }

    private static void twoHouses(World w) {
        for (int h : FEW) {
            for (int other : FEW) {
                for (int c : FEW) {
                    String told = "(" + h + ", " + other + ", " + c + ")";
                    boolean one = !w.two(h, other);
                    boolean none = !w.house(h) || !w.house(other);
                    plain(w, "early" + told, false, first(none, U, not(c, 8), O), true, x -> x.early(h, other, c));
                    plain(w, "married" + told, true, first(one, U, not(c, 2), O), true, x -> x.married(h, other, c));
                    int worth = first(!w.house(h), U, not(other, 8), O, not(c, 2), O);
                    plain(w, "bestWorth" + told, true, worth, true, x -> x.bestWorth(h, other, c));
                    int best = first(!w.house(h) || !w.quarrel(c), U, not(other, 8), O, w.quarrel(c) && !hasPlace(w, h, other, c), S);
                    plain(w, "best" + told, false, best, true, x -> x.best(h, other, c));
                    for (int d : new int[] {MIN, -1, 0, 1, 2, 256, MAX}) {
                        plain(w, "beats" + told + d, true, first(one, U, not(c, 8), O, not(d, 2), O), true,
                            x -> x.beats(h, other, c, d));
                    }
                }
            }
        }
    }

    private static boolean hasPlace(World w, int h, int season, int q) {
        int[] quarrel = w.quarrels[q];
        return quarrel[3] == season && (quarrel[0] == h || quarrel[1] == h);
    }

    private static void quarrels(World w) {
        int[] houses = {MIN, -1, 0, 1, 2, 5, 6, MAX};
        int[] stakes = {MIN, -99, -1, 0, 1, 2, 98, 99, 100, 255, 257, 65537, MAX};
        int[] seasons = {MIN, -1, 0, 7, 8, 256, MAX};
        for (int a : houses) {
            for (int b : houses) {
                for (int stake : stakes) {
                    for (int season : seasons) {
                        int refusal = first(!w.two(a, b), U, stake < 1 || stake > 99, O, not(season, 8), O,
                            w.quarrels.length == 8, F);
                        plain(w, "quarrel(" + a + ", " + b + ", " + stake + ", " + season + ")", false, refusal, false,
                            x -> x.quarrel(a, b, stake, season));
                    }
                }
            }
        }
    }

    private static void ofQuarrels(World w) {
        for (int q : WIDE) {
            boolean no = !w.quarrel(q);
            for (int b : WIDE) {
                String told = "(" + q + ", " + b + ")";
                plain(w, "ofQuarrel" + told, false, first(no, U, not(b, 6), O), true, x -> x.ofQuarrel(q, b));
                plain(w, "may" + told, false, first(no, U, not(b, 2), O), true, x -> x.may(q, b));
                // LOST is also what peace answers if there is no sum; none of these worlds has such a quarrel.
                plain(w, "peace" + told, true, first(no, U, not(b, 3), O), true, x -> x.peace(q, b));
                plain(w, "most" + told, false, first(not(q, 8), O, b < -1, U), true, x -> x.most(q, b));
                plain(w, "likeliest" + told, false, first(b < 1 || b > 8 || q < 0 || q > b, O), true, x -> x.likeliest(q, b));
            }
            plain(w, "many(" + q + ")", false, first(not(q, 3), O), true, x -> x.many(q));
        }
        plain(w, "changes()", false, 0, true, LentChampions::changes);
        plain(w, "trace()", false, 0, true, x -> Math.abs(x.trace()));
        plain(w, "fault()", false, 0, true, LentChampions::fault);
    }

    private static void hires(World w) {
        for (int q : FEW) {
            for (int side : FEW) {
                for (int h : FEW) {
                    String told = "(" + q + ", " + side + ", " + h + ")";
                    boolean no = !w.quarrel(q);
                    int refusal = first(no || h != NONE && !w.house(h), U, not(side, 2), O);
                    if (refusal == 0 && h != NONE && !w.mayBe(q, side, h)) {
                        refusal = S;
                    }
                    plain(w, "hire" + told, false, refusal, false, x -> x.hire(q, side, h));
                    if (refusal == 0) {
                        onlyThere(w, q, side, h);
                    }
                    int share = first(no, U, not(side, 2), O, not(h, 2), O);
                    plain(w, "odds" + told, true, share, true, x -> x.odds(q, side, h));
                    plain(w, "worth" + told, true, share, true, x -> x.worth(q, side, h));
                }
            }
        }
    }

    /** A HIRE changes its own place and how many there are, and nothing else. */
    private static void onlyThere(World w, int q, int side, int h) {
        LentChampions x = w.make();
        long had = x.hire(q, side, h);
        long[] want = w.before.clone();
        int at = 5 + 3 * w.houses() + 6 * q + 4 + side;
        if (had != want[at]) {
            wrong(w, "hire", "answered " + had + ", but it had " + want[at]);
        }
        want[4] += (h == NONE ? 0 : 1) - (want[at] == NONE ? 0 : 1);
        want[at] = h;
        if (!Arrays.equals(want, w.read(x))) {
            wrong(w, "hire(" + q + ", " + side + ", " + h + ")", "changed more than its place");
        }
    }

    private static void sheets(World w) {
        int[] lengths = {MIN, -41, -1, 0, 1, 39, 40, 41, 256, MAX};
        for (int k : SHEETS) {
            boolean no = not(k, 4);
            plain(w, "lose(" + k + ")", false, first(no, U), false, x -> x.lose(k));
            for (int b : SORTS) {
                for (int n : lengths) {
                    faulty(w, "sheet(" + k + ", " + b + ", " + n + ")", false, first(no, U, not(b, 3), O, n > 40, O, n < 0, SIZE),
                        false, x -> x.sheet(k, b, n));
                }
                for (int i : PLACES) {
                    int cell = first(no, U, not(b, 3), O, !no && !w.nothing(k) && w.sorts[k] != b, CAST, !no && w.nothing(k), NULL,
                        !no && not(i, w.lengths[k]), INDEX);
                    faulty(w, "cell(" + k + ", " + i + ", " + b + ")", true, cell, true, x -> x.cell(k, i, b));
                    int put = first(no, U, !no && w.nothing(k), NULL, !no && not(i, w.lengths[k]), INDEX);
                    faulty(w, "put(" + k + ", " + i + ", " + b + ")", false, put, false, x -> x.put(k, i, b));
                }
            }
        }
    }

    private static void copies(World w) {
        int[] ks = {-1, 0, 1, 2, 3, 4, MAX};
        int[] places = {MIN, -1, 0, 1, 3, 4, 40, 41, MAX};
        int[] counts = {MIN, -1, 0, 1, 2, 3, 4, 40, 41, MAX};
        for (int k : ks) {
            for (int other : ks) {
                boolean no = not(k, 4) || not(other, 4);
                for (int i : places) {
                    for (int j : places) {
                        for (int n : counts) {
                            int refusal = first(no, U, !no && (w.nothing(k) || w.nothing(other)), NULL,
                                !no && w.sorts[k] != w.sorts[other], CAST,
                                !no && (!w.cells(k, i, n) || !w.cells(other, j, n)), INDEX);
                            faulty(w, "copy(" + k + ", " + i + ", " + other + ", " + j + ", " + n + ")", false, refusal, false,
                                x -> x.copy(k, i, other, j, n));
                        }
                    }
                }
            }
        }
    }

    private static void all(World w) {
        lands(w);
        houses(w);
        twoHouses(w);
        quarrels(w);
        ofQuarrels(w);
        hires(w);
        sheets(w);
        copies(w);
    }

    public static void main(String[] args) {
        int[][] eight = {{0, 1, 50, 2}, {2, 3, 99, 2}, {4, 5, 20, 2}, {1, 0, 40, 0}, {5, 2, 70, 7}, {3, 0, 80, 7}, {0, 3, 30, 4},
            {1, 4, 60, 5}};
        int[][] seven = Arrays.copyOf(eight, 7);
        int[][] kin = {{0, 4}, {2, 5}, {3, 4}};
        // 3 told KIN to 4 behind the hires: HOUSE 4 stays in quarrel 1 against HOUSE 3.
        int[][] hires = {{0, 0, 2}, {0, 1, 3}, {1, 0, 4}, {2, 0, 1}, {3, 1, 2}, {5, 0, 1}, {5, 1, 5}};
        all(new World("nothing", "", new int[] {-1, -1, -1, -1}, new int[4], new int[0][], new int[0][], new int[0][]));
        all(new World("two houses", "c1;s9", new int[] {2, 2, -1, 1}, new int[] {3, 40, 0, 0}, new int[0][], new int[0][],
            new int[0][]));
        all(new World("seven quarrels", "c5;o8;s4;s6;c9;o2", new int[] {0, 1, 2, -1}, new int[] {4, 3, 40, 0}, seven, kin, hires));
        all(new World("eight quarrels", "c5;o8;s4;s6;c9;o2", new int[] {-1, 1, 1, 2}, new int[] {0, 4, 3, 40}, eight, kin, hires));
        System.out.println(asked + " calls looked at, " + (wrong == 0 ? "each as its line tells" : wrong + " not as due"));
        if (wrong != 0) {
            System.exit(1);
        }
    }
}
