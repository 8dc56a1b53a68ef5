import java.math.BigInteger;
import java.util.ArrayList;
import java.util.Arrays;
import java.util.List;
import java.util.Random;
import java.util.TreeSet;

/**
 * Many runs of calls, told by fixed seeds, each compared with a second program that is written another way:
 * shares of BigIntegers, rows that the machine itself casts, every row of hires tried, matchings by paths.
 */
public final class ModelTest {
    private static final int UNKNOWN = -1, OUTSIDE = -2, STATE = -3, FULL = -4, NONE = -9;
    private static final long LOST = Long.MIN_VALUE;
    private static final int RUNS = 600, CALLS = 512;

    private static int wrong = 0;

    private record Share(BigInteger upper, BigInteger lower) implements Comparable<Share> {
        static Share of(long upper, long lower) {
            BigInteger u = BigInteger.valueOf(upper);
            BigInteger l = BigInteger.valueOf(lower);
            BigInteger g = u.gcd(l);
            return new Share(u.divide(g), l.divide(g));
        }

        static Share least(BigInteger u, BigInteger l) {
            BigInteger g = u.gcd(l);
            return new Share(u.divide(g), l.divide(g));
        }

        Share plus(Share o) {
            return least(upper.multiply(o.lower).add(o.upper.multiply(lower)), lower.multiply(o.lower));
        }

        Share minus(Share o) {
            return plus(new Share(o.upper.negate(), o.lower));
        }

        Share times(Share o) {
            return least(upper.multiply(o.upper), lower.multiply(o.lower));
        }

        @Override
        public int compareTo(Share o) {
            return upper.multiply(o.lower).compareTo(o.upper.multiply(lower));
        }

        long part(int which) {
            return which == 0 ? upper.longValueExact() : which == 1 ? lower.longValueExact() : LOST;
        }
    }

    private static final Share ZERO = Share.of(0, 1), ONE = Share.of(1, 1), HALF = Share.of(1, 2);

    private static final class Quarrel {
        final int[] side = new int[2];
        final int[] hired = {NONE, NONE};
        int stake;
        int season;
    }

    private static final class Refused extends RuntimeException {
        final int answer;

        Refused(int answer) {
            super(null, null, false, false);
            this.answer = answer;
        }
    }

    /** The second program. */
    private static final class Model {
        final List<char[]> houses = new ArrayList<>();
        final TreeSet<String> kin = new TreeSet<>();
        final List<Quarrel> quarrels = new ArrayList<>();
        final Object[] sheets = new Object[4];
        int trace = 0;
        int fault = 0;

        static void need(boolean is, int refusal) {
            if (!is) {
                throw new Refused(refusal);
            }
        }

        boolean house(int h) {
            return h >= 0 && h < houses.size();
        }

        boolean two(int h, int o) {
            return house(h) && house(o) && h != o;
        }

        Quarrel at(int q) {
            need(q >= 0 && q < quarrels.size(), UNKNOWN);
            return quarrels.get(q);
        }

        boolean areKin(int h, int o) {
            return h == o || kin.contains(Math.min(h, o) + " " + Math.max(h, o));
        }

        int forceOf(int h, int season) {
            int strength = houses.get(h)[1] - '0';
            return houses.get(h)[0] == 'c' || strength - season < 1 ? houses.get(h)[0] == 'c' ? strength : 1
                : strength - season;
        }

        Share beatsOf(int h, int o, int season) {
            if (houses.get(h)[0] == 's' && houses.get(o)[0] == 's') {
                return HALF;
            }
            return Share.of(forceOf(h, season), forceOf(h, season) + forceOf(o, season));
        }

        Share oddsOf(int mine, int theirs, int season) {
            if (mine == NONE) {
                return theirs == NONE ? HALF : ZERO;
            }
            return theirs == NONE ? ONE : beatsOf(mine, theirs, season);
        }

        Share worthOf(Quarrel q, int mine, int theirs) {
            Share wins = oddsOf(mine, theirs, q.season);
            Share stake = Share.of(q.stake, 1);
            Share won = mine == NONE ? stake : Share.of(9L * q.stake, 10);
            return wins.times(won).minus(ONE.minus(wins).times(stake));
        }

        boolean mayBe(Quarrel q, int side, int h) {
            if (h == q.side[side] || areKin(h, q.side[1 - side])) {
                return false;
            }
            for (Quarrel o : quarrels) {
                for (int s = 0; s < 2; s++) {
                    if (o.season == q.season && o.hired[s] == h && !(o == q && s == side)) {
                        return false;
                    }
                }
            }
            return true;
        }

        Share worthOfHouse(int h) {
            Share sum = ZERO;
            for (Quarrel q : quarrels) {
                for (int s = 0; s < 2; s++) {
                    if (q.side[s] == h) {
                        sum = sum.plus(worthOf(q, q.hired[s], q.hired[1 - s]));
                    }
                }
            }
            return sum;
        }

        int[][] keepHires() {
            int[][] kept = new int[quarrels.size()][];
            for (int q = 0; q < kept.length; q++) {
                kept[q] = quarrels.get(q).hired.clone();
            }
            return kept;
        }

        void giveBack(int[][] kept) {
            for (int q = 0; q < kept.length; q++) {
                System.arraycopy(kept[q], 0, quarrels.get(q).hired, 0, 2);
            }
        }

        // The best row is sought by trying all, in the order of rows.
        Share bestSum;
        int[] bestRow;

        void seek(List<Quarrel> own, int h, int k, Share sum, int[] row) {
            if (k == own.size()) {
                if (bestSum == null || sum.compareTo(bestSum) > 0) {
                    bestSum = sum;
                    bestRow = row.clone();
                }
                return;
            }
            Quarrel q = own.get(k);
            int s = q.side[0] == h ? 0 : 1;
            for (int c = 0; c <= houses.size(); c++) {
                int who = c == houses.size() ? NONE : c;
                if (who == NONE || mayBe(q, s, who)) {
                    q.hired[s] = who;
                    row[k] = who;
                    seek(own, h, k + 1, sum.plus(worthOf(q, who, q.hired[1 - s])), row);
                    q.hired[s] = NONE;
                }
            }
        }

        List<Quarrel> seekBest(int h, int season) {
            int[][] kept = keepHires();
            List<Quarrel> own = new ArrayList<>();
            for (Quarrel q : quarrels) {
                if (q.season == season && (q.side[0] == h || q.side[1] == h)) {
                    own.add(q);
                    q.hired[q.side[0] == h ? 0 : 1] = NONE;
                }
            }
            bestSum = null;
            seek(own, h, 0, ZERO, new int[own.size()]);
            giveBack(kept);
            return own;
        }

        /** The most places that can be filled, by paths; places below from are settled, lent is taken. */
        int matching(List<int[]> fits, int from, boolean[] lent) {
            int[] placeOf = new int[houses.size()];
            Arrays.fill(placeOf, -1);
            int count = 0;
            for (int p = from; p < fits.size(); p++) {
                if (path(fits, p, lent.clone(), placeOf)) {
                    count++;
                }
            }
            return count;
        }

        boolean path(List<int[]> fits, int p, boolean[] seen, int[] placeOf) {
            for (int h : fits.get(p)) {
                if (!seen[h]) {
                    seen[h] = true;
                    if (placeOf[h] < 0 || path(fits, placeOf[h], seen, placeOf)) {
                        placeOf[h] = p;
                        return true;
                    }
                }
            }
            return false;
        }

        int mostOf(int season, int k) {
            int[][] kept = keepHires();
            for (Quarrel q : quarrels) {
                Arrays.fill(q.hired, NONE);
            }
            List<int[]> fits = new ArrayList<>();
            for (Quarrel q : quarrels) {
                for (int s = 0; s < 2 && q.season == season; s++) {
                    List<Integer> row = new ArrayList<>();
                    for (int h = 0; h < houses.size(); h++) {
                        if (mayBe(q, s, h)) {
                            row.add(h);
                        }
                    }
                    fits.add(row.stream().mapToInt(x -> x).toArray());
                }
            }
            giveBack(kept);
            boolean[] lent = new boolean[houses.size()];
            int all = matching(fits, 0, lent);
            if (k == -1) {
                return all;
            }
            int left = all;
            int answer = NONE;
            for (int p = 0; p < fits.size() && p <= k; p++) {
                answer = NONE;
                for (int h : fits.get(p)) {
                    if (!lent[h] && answer == NONE) {
                        lent[h] = true;
                        if (matching(fits, p + 1, lent) == left - 1) {
                            answer = h;
                        } else {
                            lent[h] = false;
                        }
                    }
                }
                left -= answer == NONE ? 0 : 1;
            }
            return k < fits.size() ? answer : NONE;
        }

        Object typed(int sheet, int sort) {
            Object row = sheets[sheet];
            return sort == 0 ? (Object) (byte[]) row : sort == 1 ? (Object) (short[]) row : (Object) (int[]) row;
        }

        static int lengthOf(Object row) {
            return row instanceof byte[] b ? b.length : row instanceof short[] s ? s.length : ((int[]) row).length;
        }

        static int cellOf(Object row, int i) {
            return row instanceof byte[] b ? b[i] : row instanceof short[] s ? s[i] : ((int[]) row)[i];
        }

        /** The cells as ints, by what the machine itself says of them. */
        int[] cells(int sheet, int sort, int i, long n) {
            Object row = typed(sheet, sort);
            int length = lengthOf(row);
            if (n < 0) {
                throw new NegativeArraySizeException();
            }
            if (i < 0 || i > length || i + n > length) {
                throw new ArrayIndexOutOfBoundsException();
            }
            int[] taken = new int[(int) n];
            for (int k = 0; k < n; k++) {
                taken[k] = cellOf(row, i + k);
            }
            return taken;
        }

        static int faultOf(RuntimeException e) {
            return e instanceof NullPointerException ? 1 : e instanceof ClassCastException ? 2
                : e instanceof IndexOutOfBoundsException ? 3 : e instanceof NegativeArraySizeException ? 4 : -1;
        }

        // A regular expression of every beginning of a TEXT tells where it breaks off.
        int landOf(int[] codes) {
            StringBuilder text = new StringBuilder();
            for (int code : codes) {
                text.append(code >= 0 && code < 65536 ? (char) code : '?');
            }
            String whole = "[cos][1-9](;[cos][1-9]){1,5}";
            if (text.toString().matches(whole)) {
                houses.clear();
                kin.clear();
                quarrels.clear();
                for (String house : text.toString().split(";")) {
                    houses.add(house.toCharArray());
                }
                return houses.size();
            }
            for (int end = 1; end <= codes.length; end++) {
                if (!beginning(text.substring(0, end), whole)) {
                    return -100 - (end - 1);
                }
            }
            return -100 - codes.length;
        }

        static boolean beginning(String start, String whole) {
            String full = "c1;c1;c1;c1;c1;c1";
            for (int more = 0; start.length() + more <= full.length(); more++) {
                String tail = full.substring(start.length(), start.length() + more);
                if ((start + tail).matches(whole)) {
                    return true;
                }
            }
            return false;
        }

        int bookOf(int[] row) {
            int[][] kept = keepHires();
            for (Quarrel q : quarrels) {
                Arrays.fill(q.hired, NONE);
            }
            int answer = NONE;
            for (int k = 0; k < row.length / 3 && answer == NONE; k++) {
                int q = row[3 * k];
                int s = row[3 * k + 1];
                int h = row[3 * k + 2];
                boolean is = q >= 0 && q < quarrels.size() && (s == 0 || s == 1) && house(h);
                if (is && quarrels.get(q).hired[s] == NONE && mayBe(quarrels.get(q), s, h)) {
                    quarrels.get(q).hired[s] = h;
                } else {
                    answer = k;
                }
            }
            giveBack(kept);
            return answer;
        }

        int changesOf() {
            int set = 0;
            for (int q = 0; q < quarrels.size(); q++) {
                for (int s = 0; s < 2; s++) {
                    Quarrel at = quarrels.get(q);
                    Share now = worthOf(at, at.hired[s], at.hired[1 - s]);
                    for (int h = -1; h < houses.size(); h++) {
                        boolean can = h < 0 || mayBe(at, s, h);
                        if (can && worthOf(at, h < 0 ? NONE : h, at.hired[1 - s]).compareTo(now) > 0) {
                            set |= 1 << 2 * q + s;
                        }
                    }
                }
            }
            return set;
        }

        static int likeliestOf(int w, int n) {
            Share best = null;
            int answer = 0;
            for (int a = 1; a < 10; a++) {
                for (int b = 1; b < 10; b++) {
                    Share p = ONE;
                    for (int k = 0; k < n; k++) {
                        p = p.times(Share.of(k < w ? a : b, a + b));
                    }
                    if (best == null || p.compareTo(best) > 0) {
                        best = p;
                        answer = 10 * a + b;
                    }
                }
            }
            return answer;
        }

        Share marriedOf(int h, int o) {
            int[][] kept = keepHires();
            Share now = worthOfHouse(h);
            String pair = Math.min(h, o) + " " + Math.max(h, o);
            boolean added = kin.add(pair);
            for (Quarrel q : quarrels) {
                for (int s = 0; s < 2; s++) {
                    if (q.hired[s] != NONE && !mayBe(q, s, q.hired[s])) {
                        q.hired[s] = NONE;
                    }
                }
            }
            Share then = worthOfHouse(h);
            giveBack(kept);
            if (added) {
                kin.remove(pair);
            }
            return then.minus(now);
        }

        long peaceOf(Quarrel q, int what) {
            Share zero = worthOf(q, q.hired[0], q.hired[1]);
            Share one = worthOf(q, q.hired[1], q.hired[0]);
            long count = 0;
            long least = LOST;
            long greatest = LOST;
            for (int sum = -200; sum <= 200; sum++) {
                if (Share.of(sum, 1).compareTo(zero) >= 0 && Share.of(-sum, 1).compareTo(one) >= 0) {
                    least = count == 0 ? sum : least;
                    greatest = sum;
                    count++;
                }
            }
            return what == 0 ? count : what == 1 ? least : greatest;
        }

        void leave(int... bodies) {
            for (int body : bodies) {
                trace = trace * 31 + body;
            }
        }

        int tellOf(int h) {
            int strength = houses.get(h)[1] - '0';
            switch (houses.get(h)[0]) {
                case 'c': leave(1); return strength;
                case 'o': leave(2, 1); return strength + 100;
                default: leave(3, 2, 1, 1); return 2 * strength + 100;
            }
        }

        int callOf(int h) {
            boolean sworn = houses.get(h)[0] == 's';
            leave(sworn ? 5 : 4);
            return sworn ? 70 : h;
        }

        static boolean season(int s) {
            return s >= 0 && s <= 7;
        }

        static boolean bit(int b) {
            return b == 0 || b == 1;
        }

        long answer(String name, int[] a) {
            boolean namesFaults = List.of("land", "book", "sheet", "put", "cell", "copy", "as").contains(name);
            if (namesFaults) {
                fault = 0;
            }
            boolean isLong = List.of("beats", "odds", "worth", "worthTo", "bestWorth", "peace", "married", "cell")
                .contains(name);
            try {
                return SHEET_CALLS.contains(name) ? sheetCall(name, a) : landCall(name, a);
            } catch (Refused e) {
                return isLong ? LOST : e.answer;
            } catch (RuntimeException e) {
                int which = faultOf(e);
                if (which < 0 || !namesFaults) {
                    throw e;
                }
                fault = which;
                return isLong ? LOST : -10 - which;
            }
        }

        static final List<String> SHEET_CALLS = List.of("land", "book", "sheet", "lose", "put", "cell", "copy");

        long sheetCall(String name, int[] a) {
            need(a[0] >= 0 && a[0] < 4, UNKNOWN);
            switch (name) {
                case "land":
                    need(a[1] >= 0 && a[1] < 3, OUTSIDE);
                    return landOf(cells(a[0], a[1], a[2], a[3]));
                case "book":
                    need(a[1] >= 0 && a[1] < 3, OUTSIDE);
                    return bookOf(cells(a[0], a[1], a[2], 3L * a[3]));
                case "sheet":
                    need(a[1] >= 0 && a[1] < 3 && a[2] <= 40, OUTSIDE);
                    sheets[a[0]] = a[1] == 0 ? new byte[a[2]] : a[1] == 1 ? new short[a[2]] : (Object) new int[a[2]];
                    return 1;
                case "lose":
                    boolean had = sheets[a[0]] != null;
                    sheets[a[0]] = null;
                    return had ? 1 : 0;
                case "put":
                    if (sheets[a[0]] instanceof byte[] b) {
                        b[a[1]] = (byte) a[2];
                    } else if (sheets[a[0]] instanceof short[] s) {
                        s[a[1]] = (short) a[2];
                    } else {
                        ((int[]) sheets[a[0]])[a[1]] = a[2];
                    }
                    return 1;
                case "cell":
                    need(a[2] >= 0 && a[2] < 3, OUTSIDE);
                    return cellOf(typed(a[0], a[2]), a[1]);
                default:
                    need(a[2] >= 0 && a[2] < 4, UNKNOWN);
                    if (sheets[a[0]] == null || sheets[a[2]] == null) {
                        throw new NullPointerException();
                    }
                    if (sheets[a[0]].getClass() != sheets[a[2]].getClass()) {
                        throw new ClassCastException();
                    }
                    System.arraycopy(sheets[a[0]], a[1], sheets[a[2]], a[3], a[4]);
                    return a[4];
            }
        }

        long landCall(String name, int[] a) {
            switch (name) {
                case "ofHouse":
                    need(house(a[0]), UNKNOWN);
                    need(a[1] >= 0 && a[1] < 3, OUTSIDE);
                    int kins = 0;
                    for (int h = 0; h < houses.size(); h++) {
                        kins |= areKin(h, a[0]) ? 1 << h : 0;
                    }
                    return a[1] == 0 ? "cos".indexOf(houses.get(a[0])[0]) : a[1] == 1 ? houses.get(a[0])[1] - '0' : kins;
                case "force":
                    need(house(a[0]), UNKNOWN);
                    need(season(a[1]), OUTSIDE);
                    return forceOf(a[0], a[1]);
                case "beats":
                    need(two(a[0], a[1]) && season(a[2]) && bit(a[3]), UNKNOWN);
                    return beatsOf(a[0], a[1], a[2]).part(a[3]);
                case "kin":
                    need(two(a[0], a[1]), UNKNOWN);
                    String pair = Math.min(a[0], a[1]) + " " + Math.max(a[0], a[1]);
                    return (a[2] != 0 ? kin.add(pair) : kin.remove(pair)) ? 1 : 0;
                case "early":
                    need(house(a[0]) && house(a[1]), UNKNOWN);
                    need(season(a[2]), OUTSIDE);
                    int count = 0;
                    for (int s = 7; s >= a[2]; s--) {
                        count += forceOf(a[0], s) < forceOf(a[1], s) ? 0 : 1;
                    }
                    return count;
                case "tell":
                    need(house(a[0]), UNKNOWN);
                    return tellOf(a[0]);
                case "call":
                    need(house(a[0]), UNKNOWN);
                    return callOf(a[0]);
                case "as":
                    need(house(a[0]), UNKNOWN);
                    need(a[1] >= 0 && a[1] < 3, OUTSIDE);
                    if ("cos".indexOf(houses.get(a[0])[0]) < a[1]) {
                        throw new ClassCastException();
                    }
                    return 1;
                case "trace": return trace;
                case "fault": return fault;
                default: return quarrelCall(name, a);
            }
        }

        long quarrelCall(String name, int[] a) {
            switch (name) {
                case "quarrel":
                    need(two(a[0], a[1]), UNKNOWN);
                    need(a[2] >= 1 && a[2] <= 99 && season(a[3]), OUTSIDE);
                    need(quarrels.size() < 8, FULL);
                    Quarrel made = new Quarrel();
                    made.side[0] = a[0];
                    made.side[1] = a[1];
                    made.stake = a[2];
                    made.season = a[3];
                    quarrels.add(made);
                    return quarrels.size() - 1;
                case "ofQuarrel":
                    Quarrel of = at(a[0]);
                    need(a[1] >= 0 && a[1] < 6, OUTSIDE);
                    return new int[] {of.side[0], of.side[1], of.stake, of.season, of.hired[0], of.hired[1]}[a[1]];
                case "may":
                    Quarrel may = at(a[0]);
                    need(bit(a[1]), OUTSIDE);
                    int set = 0;
                    for (int h = 0; h < houses.size(); h++) {
                        set += mayBe(may, a[1], h) ? 1 << h : 0;
                    }
                    return set;
                case "hire":
                    Quarrel hire = at(a[0]);
                    need(a[2] == NONE || house(a[2]), UNKNOWN);
                    need(bit(a[1]), OUTSIDE);
                    need(a[2] == NONE || mayBe(hire, a[1], a[2]), STATE);
                    int had = hire.hired[a[1]];
                    hire.hired[a[1]] = a[2];
                    return had;
                case "odds":
                    Quarrel odds = at(a[0]);
                    need(bit(a[1]) && bit(a[2]), OUTSIDE);
                    return oddsOf(odds.hired[a[1]], odds.hired[1 - a[1]], odds.season).part(a[2]);
                case "worth":
                    Quarrel worth = at(a[0]);
                    need(bit(a[1]) && bit(a[2]), OUTSIDE);
                    return worthOf(worth, worth.hired[a[1]], worth.hired[1 - a[1]]).part(a[2]);
                case "worthTo":
                    need(house(a[0]) && bit(a[1]), UNKNOWN);
                    return worthOfHouse(a[0]).part(a[1]);
                case "peace":
                    Quarrel peace = at(a[0]);
                    need(a[1] >= 0 && a[1] < 3, OUTSIDE);
                    return peaceOf(peace, a[1]);
                case "changes": return changesOf();
                case "married":
                    need(two(a[0], a[1]) && bit(a[2]), UNKNOWN);
                    return marriedOf(a[0], a[1]).part(a[2]);
                default: return soughtCall(name, a);
            }
        }

        long soughtCall(String name, int[] a) {
            switch (name) {
                case "best":
                    need(house(a[0]), UNKNOWN);
                    Quarrel best = at(a[2]);
                    need(season(a[1]), OUTSIDE);
                    need(best.season == a[1] && (best.side[0] == a[0] || best.side[1] == a[0]), STATE);
                    return bestRow(seekBest(a[0], a[1]), best);
                case "bestWorth":
                    need(house(a[0]) && season(a[1]) && bit(a[2]), UNKNOWN);
                    seekBest(a[0], a[1]);
                    return bestSum.part(a[2]);
                case "most":
                    need(season(a[0]), OUTSIDE);
                    need(a[1] >= -1, UNKNOWN);
                    return mostOf(a[0], a[1]);
                case "likeliest":
                    need(a[1] >= 1 && a[1] <= 8 && a[0] >= 0 && a[0] <= a[1], OUTSIDE);
                    return likeliestOf(a[0], a[1]);
                case "many":
                    need(a[0] >= 0 && a[0] < 3, OUTSIDE);
                    long hired = quarrels.stream().mapToLong(q -> Arrays.stream(q.hired).filter(h -> h != NONE).count()).sum();
                    return a[0] == 0 ? houses.size() : a[0] == 1 ? quarrels.size() : hired;
                default: throw new IllegalStateException(name);
            }
        }

        int bestRow(List<Quarrel> own, Quarrel q) {
            return bestRow[own.indexOf(q)];
        }
    }

    private static long ask(LentChampions x, String name, int[] a) {
        switch (name) {
            case "land": return x.land(a[0], a[1], a[2], a[3]);
            case "ofHouse": return x.ofHouse(a[0], a[1]);
            case "force": return x.force(a[0], a[1]);
            case "beats": return x.beats(a[0], a[1], a[2], a[3]);
            case "kin": return x.kin(a[0], a[1], a[2] != 0);
            case "early": return x.early(a[0], a[1], a[2]);
            case "quarrel": return x.quarrel(a[0], a[1], a[2], a[3]);
            case "ofQuarrel": return x.ofQuarrel(a[0], a[1]);
            case "may": return x.may(a[0], a[1]);
            case "hire": return x.hire(a[0], a[1], a[2]);
            case "odds": return x.odds(a[0], a[1], a[2]);
            case "worth": return x.worth(a[0], a[1], a[2]);
            case "worthTo": return x.worthTo(a[0], a[1]);
            case "best": return x.best(a[0], a[1], a[2]);
            case "bestWorth": return x.bestWorth(a[0], a[1], a[2]);
            case "peace": return x.peace(a[0], a[1]);
            case "most": return x.most(a[0], a[1]);
            case "book": return x.book(a[0], a[1], a[2], a[3]);
            case "changes": return x.changes();
            case "likeliest": return x.likeliest(a[0], a[1]);
            case "married": return x.married(a[0], a[1], a[2]);
            case "sheet": return x.sheet(a[0], a[1], a[2]);
            case "lose": return x.lose(a[0]);
            case "put": return x.put(a[0], a[1], a[2]);
            case "cell": return x.cell(a[0], a[1], a[2]);
            case "copy": return x.copy(a[0], a[1], a[2], a[3], a[4]);
            case "tell": return x.tell(a[0]);
            case "call": return x.call(a[0]);
            case "as": return x.as(a[0], a[1]);
            case "trace": return x.trace();
            case "fault": return x.fault();
            case "many": return x.many(a[0]);
            default: throw new IllegalStateException(name);
        }
    }

    /** One run: an object, the model, and how many calls are left. */
    private static final class Run {
        final LentChampions x = new LentChampions();
        final Model model = new Model();
        final Random random;
        final int number;
        final int seasonsUsed;
        int left = CALLS;

        Run(int number) {
            this.number = number;
            random = new Random(number);
            seasonsUsed = 1 + number % 3;
        }

        void call(String name, int... a) {
            if (left-- <= 0) {
                return;
            }
            long want = model.answer(name, a);
            long got = ask(x, name, a);
            if (got != want) {
                wrong++;
                System.out.println("run " + number + ": " + name + Arrays.toString(a) + " answered " + got + ", due is " + want);
            }
        }

        int below(int n) {
            return random.nextInt(n);
        }

        /** Mostly 0 .. n - 1, now and then beside it, seldom far away. */
        int near(int n) {
            int r = below(60);
            if (r == 0) {
                int[] far = {Integer.MIN_VALUE, Integer.MAX_VALUE, NONE, -2, 64, 1431655766, 1 << 30};
                return far[below(far.length)];
            }
            return r < 4 ? (r == 1 ? -1 : n) : below(Math.max(1, n));
        }

        int house() {
            return near(Math.max(2, model.houses.size()));
        }

        int quarrel() {
            return near(Math.max(1, model.quarrels.size()));
        }

        int season() {
            return below(3) > 0 ? below(seasonsUsed) * 3 : near(8);
        }

        void write(int k, int sort, int[] row) {
            call("sheet", k, sort, row.length);
            for (int i = 0; i < row.length; i++) {
                call("put", k, i, row[i]);
            }
        }

        void settle() {
            int count = below(5) == 0 ? 1 + below(7) : 4 + below(3);
            int[] row = new int[3 * count - 1];
            for (int p = 0; p < row.length; p++) {
                row[p] = p % 3 == 0 ? "cos".charAt(below(3)) : p % 3 == 1 ? '1' + below(9) : ';';
            }
            if (below(5) == 0) {
                row[below(row.length)] = new int[] {'0', ':', ';', 'c', '5', 0, 'c' + 256, 'b'}[below(8)];
            }
            int sort = below(3);
            int k = below(4);
            write(k, sort, row);
            call("land", k, sort, 0, below(8) == 0 ? below(row.length + 2) : row.length);
            call("many", 0);
        }

        void bookOfHires() {
            int n = 1 + below(4);
            int[] row = new int[3 * n];
            for (int i = 0; i < row.length; i++) {
                row[i] = i % 3 == 0 ? quarrel() : i % 3 == 1 ? near(2) : house();
            }
            int sort = below(3);
            int k = below(4);
            write(k, sort, row);
            call("book", k, sort, 0, n);
        }

        void askOfQuarrels() {
            switch (below(10)) {
                case 0: call("may", quarrel(), near(2)); break;
                case 1: call("odds", quarrel(), near(2), near(2)); break;
                case 2: call("worth", quarrel(), near(2), near(2)); break;
                case 3: call("worthTo", house(), near(2)); break;
                case 4: call("best", house(), season(), quarrel()); break;
                case 5: call("bestWorth", house(), season(), near(2)); break;
                case 6: call("peace", quarrel(), near(3)); break;
                case 7: call("most", season(), below(18) - 1 - below(2)); break;
                case 8: call("changes"); break;
                default: call("married", house(), house(), near(2)); break;
            }
        }

        /** A best place is seldom hit by chance, so it is asked for a place that there is. */
        void askBest() {
            if (!model.quarrels.isEmpty()) {
                int q = below(model.quarrels.size());
                Quarrel of = model.quarrels.get(q);
                call("best", of.side[below(2)], of.season, q);
            }
        }

        void askOfHouses() {
            switch (below(9)) {
                case 0: call("ofHouse", house(), near(3)); break;
                case 1: call("force", house(), near(8)); break;
                case 2: call("beats", house(), house(), near(8), near(2)); break;
                case 3: call("early", house(), house(), near(8)); break;
                case 4: call("tell", house()); break;
                case 5: call("call", house()); break;
                case 6: call("as", house(), near(3)); call("fault"); break;
                case 7: call("trace"); break;
                default: call("ofQuarrel", quarrel(), near(6)); break;
            }
        }

        void askOfSheets() {
            switch (below(9)) {
                case 0: call("sheet", near(4), near(3), below(6) == 0 ? near(41) : below(6)); break;
                case 1: call("lose", near(4)); break;
                case 2: call("put", near(4), near(6), random.nextInt()); break;
                case 3: call("cell", near(4), near(6), near(3)); break;
                case 4: call("copy", near(4), near(5), near(4), near(5), near(4)); break;
                case 5: call("land", near(4), near(3), near(5), near(6)); break;
                case 6: call("book", near(4), near(3), near(5), near(14)); break;
                case 7: call("likeliest", near(9), near(9)); break;
                default: call("many", near(3)); break;
            }
            call("fault");
        }

        void go() {
            int quiet = 0;
            while (left > 0) {
                int r = below(100);
                if (quiet == 0 || model.houses.isEmpty() && r < 30) {
                    settle();
                    quiet = 60 + below(200);
                } else if (r < 12 && model.quarrels.size() < 8 || r < 1) {
                    call("quarrel", house(), house(), below(4) == 0 ? near(100) : 1 + below(99), season());
                } else if (r < 30) {
                    call("hire", quarrel(), near(2), below(6) == 0 ? NONE : house());
                } else if (r < 34) {
                    call("kin", house(), house(), below(3) == 0 ? 0 : 1);
                } else if (r < 74) {
                    askOfQuarrels();
                } else if (r < 80) {
                    askBest();
                } else if (r < 90) {
                    askOfHouses();
                } else if (r < 92) {
                    bookOfHires();
                } else {
                    askOfSheets();
                }
                quiet--;
                if (quiet < 0) {
                    quiet = 0;
                }
            }
        }
    }

    public static void main(String[] args) {
        for (int number = 0; number < RUNS && wrong < 20; number++) {
            new Run(number).go();
        }
        System.out.println(wrong == 0 ? RUNS + " runs are as the model has them" : wrong + " answers differ");
        if (wrong != 0) {
            System.exit(1);
        }
    }
}
