/** The promises of the document, one by one: ordinary inputs, the edges that it names, wrong inputs. */
public final class PromisesTest {
    private static final int U = LentChampions.UNKNOWN, O = LentChampions.OUTSIDE, S = LentChampions.STATE,
        F = LentChampions.FULL, NONE = LentChampions.NONE;
    private static final long LOST = LentChampions.LOST;
    private static final int NULL = -11, CAST = -12, INDEX = -13, SIZE = -14;
    private static final int MIN = Integer.MIN_VALUE, MAX = Integer.MAX_VALUE;

    private static int wrong = 0;
    private static int promise = 0;

    private static void due(String call, long got, long want) {
        if (got != want) {
            wrong++;
            System.out.println("promise " + promise + ": " + call + " answered " + got + ", due is " + want);
        }
    }

    private static void share(String call, long upper, long lower, long wantUpper, long wantLower) {
        due(call + " upper", upper, wantUpper);
        due(call + " lower", lower, wantLower);
    }

    /** A TEXT into a SHEET from its first cell on, and the LAND by it. */
    private static int settle(LentChampions x, String text) {
        write(x, 3, 0, text);
        return x.land(3, 0, 0, text.length());
    }

    private static void write(LentChampions x, int k, int sort, String text) {
        x.sheet(k, sort, text.length());
        for (int i = 0; i < text.length(); i++) {
            x.put(k, i, text.charAt(i));
        }
    }

    private static LentChampions landOf(String text) {
        LentChampions x = new LentChampions();
        due("land " + text, settle(x, text), (text.length() + 1) / 3);
        return x;
    }

    private static void numbers(LentChampions x, int k, int sort, int... row) {
        x.sheet(k, sort, row.length);
        for (int i = 0; i < row.length; i++) {
            x.put(k, i, row[i]);
        }
    }

    private static void newObject() {
        LentChampions x = new LentChampions();
        due("fault()", x.fault(), 0);
        due("trace()", x.trace(), 0);
        for (int what = 0; what < 3; what++) {
            due("many", x.many(what), 0);
        }
        due("ofHouse(0, 0)", x.ofHouse(0, 0), U);
        for (int k = 0; k < 4; k++) {
            due("lose " + k, x.lose(k), 0);
            due("put " + k, x.put(k, 0, 1), NULL);
        }
        due("UNKNOWN", U, -1);
        due("OUTSIDE", O, -2);
        due("STATE", S, -3);
        due("FULL", F, -4);
        due("NONE", NONE, -9);
        due("LOST", LOST, Long.MIN_VALUE);
    }

    private static void texts() {
        LentChampions x = new LentChampions();
        due("two", settle(x, "c1;c1"), 2);
        due("six", settle(x, "c1;o2;s3;c4;o5;s9"), 6);
        String[] bad = {"", "c", "c1", "c1;", "c1;o", "x", "1c", "cc", "c0;c1", "c1c1", "c1;;", "c1;c1;",
            "c1;c1;o", "c1;c1;o5;", "C1;c1", "c1;c1 ", "c1;o2;s3;c4;o5;s9;", "c1;o2;s3;c4;o5;s9;c1",
            "c1;o2;s3;c4;o5;s9x", "c:;c1", "c1:c1"};
        int[] at = {0, 1, 2, 3, 4, 0, 0, 1, 1, 2, 3, 6, 7, 9, 0, 5, 17, 17, 17, 1, 2};
        for (int k = 0; k < bad.length; k++) {
            due("land '" + bad[k] + "'", settle(x, bad[k]), -100 - at[k]);
            due("fault of a TEXT is none of the machine's", x.fault(), 0);
            due("HOUSES stay", x.many(0), 6);
        }
    }

    private static void cellsOfTexts() {
        LentChampions x = new LentChampions();
        write(x, 0, 1, "zzc5;o3zz");
        due("from the middle", x.land(0, 1, 2, 5), 2);
        due("STRENGTH", x.ofHouse(1, 1), 3);
        x.put(0, 2, 99 + 256);
        due("a short is not cut to a byte", x.land(0, 1, 2, 5), -100);
        numbers(x, 1, 2, 99 + 65536, 49, 59, 99, 49);
        due("nor an int to a short", x.land(1, 2, 0, 5), -100);
        numbers(x, 1, 0, 99 + 256, 49 - 256, 59, 99, 49);
        due("a byte is", x.land(1, 0, 0, 5), 2);
        due("sheet -1", x.land(-1, 9, 0, -1), U);
        due("sheet 4", x.land(4, 0, 0, 5), U);
        due("sort -1", x.land(2, -1, 0, -1), O);
        due("sort 3", x.land(0, 3, 0, 5), O);
        due("nothing is no CAST", x.land(2, 0, 9, -1), NULL);
        due("fault", x.fault(), 1);
        due("CAST ahead of SIZE", x.land(0, 0, 99, -1), CAST);
        due("fault", x.fault(), 2);
        due("SIZE ahead of INDEX", x.land(0, 1, 99, -1), SIZE);
        due("fault", x.fault(), 4);
        due("INDEX: too many", x.land(0, 1, 0, 10), INDEX);
        due("fault", x.fault(), 3);
        due("INDEX: from -1", x.land(0, 1, -1, 1), INDEX);
        due("INDEX: none from -1", x.land(0, 1, -1, 0), INDEX);
        due("INDEX: none from beyond", x.land(0, 1, 10, 0), INDEX);
        due("none from the end", x.land(0, 1, 9, 0), -100);
        due("fault", x.fault(), 0);
        due("INDEX without wrapping", x.land(0, 1, 1, MAX), INDEX);
        due("INDEX without wrapping", x.land(0, 1, MAX, MAX), INDEX);
        due("INDEX", x.land(0, 1, MIN, 0), INDEX);
        due("SIZE", x.land(0, 1, 0, MIN), SIZE);
        due("a refusal ends the FAULT", x.land(4, 0, 0, 0), U);
        due("fault", x.fault(), 0);
        due("the LAND stays", x.many(0), 2);
    }

    private static void allAnew() {
        LentChampions x = landOf("c5;o8;s4");
        x.kin(0, 2, true);
        x.quarrel(0, 1, 10, 0);
        x.hire(0, 0, 2);
        x.tell(0);
        due("a TEXT that is not taken leaves all", settle(x, "c5;o8;x"), -106);
        due("KIN", x.ofHouse(0, 2), 5);
        due("QUARRELS", x.many(1), 1);
        due("HIRED", x.many(2), 1);
        due("a TEXT", settle(x, "s9;c1"), 2);
        due("no KIN", x.ofHouse(0, 2), 1);
        due("no QUARRELS", x.many(1), 0);
        due("none HIRED", x.many(2), 0);
        due("fewer HOUSES", x.ofHouse(2, 0), U);
        due("kind", x.ofHouse(0, 0), 2);
        due("TRACE goes on", x.trace(), 1);
        due("SHEETS stay", x.cell(3, 0, 0), 's');
        due("a QUARREL", x.quarrel(0, 1, 1, 0), 0);
        due("has nobody", x.ofQuarrel(0, 4), NONE);
    }

    private static void ofHouse() {
        LentChampions x = landOf("c5;o8;s4");
        int[] kinds = {0, 1, 2};
        int[] strengths = {5, 8, 4};
        for (int h = 0; h < 3; h++) {
            due("kind", x.ofHouse(h, 0), kinds[h]);
            due("STRENGTH", x.ofHouse(h, 1), strengths[h]);
            due("KIN to itself", x.ofHouse(h, 2), 1 << h);
        }
        x.kin(2, 0, true);
        due("KIN", x.ofHouse(0, 2), 5);
        due("KIN", x.ofHouse(2, 2), 5);
        due("KIN", x.ofHouse(1, 2), 2);
        due("h -1", x.ofHouse(-1, 9), U);
        due("h 3", x.ofHouse(3, 0), U);
        due("what -1", x.ofHouse(0, -1), O);
        due("what 3", x.ofHouse(0, 3), O);
    }

    private static void forces() {
        LentChampions x = landOf("c5;o8;s4;o1");
        int[][] want = {{5, 5, 5, 5, 5, 5, 5, 5}, {8, 7, 6, 5, 4, 3, 2, 1}, {4, 3, 2, 1, 1, 1, 1, 1},
            {1, 1, 1, 1, 1, 1, 1, 1}};
        for (int h = 0; h < 4; h++) {
            for (int season = 0; season < 8; season++) {
                due("force(" + h + ", " + season + ")", x.force(h, season), want[h][season]);
            }
        }
        due("h 4", x.force(4, 9), U);
        due("h -1", x.force(-1, 0), U);
        due("season -1", x.force(0, -1), O);
        due("season 8", x.force(0, 8), O);
    }

    private static void beats() {
        LentChampions x = landOf("c5;o8;s4;s6;c5");
        share("c5 o8 in 0", x.beats(0, 1, 0, 0), x.beats(0, 1, 0, 1), 5, 13);
        share("o8 c5 in 3", x.beats(1, 0, 3, 0), x.beats(1, 0, 3, 1), 1, 2);
        share("o8 s4 in 0", x.beats(1, 2, 0, 0), x.beats(1, 2, 0, 1), 2, 3);
        share("s4 c5 in 7", x.beats(2, 0, 7, 0), x.beats(2, 0, 7, 1), 1, 6);
        share("SWORN ones", x.beats(2, 3, 0, 0), x.beats(2, 3, 0, 1), 1, 2);
        share("SWORN ones", x.beats(3, 2, 0, 0), x.beats(3, 2, 0, 1), 1, 2);
        share("like ones", x.beats(0, 4, 7, 0), x.beats(0, 4, 7, 1), 1, 2);
        due("one", x.beats(1, 1, 0, 0), LOST);
        due("h -1", x.beats(-1, 0, 0, 0), LOST);
        due("other 5", x.beats(0, 5, 0, 0), LOST);
        due("season 8", x.beats(0, 1, 8, 0), LOST);
        due("season -1", x.beats(0, 1, -1, 0), LOST);
        due("which 2", x.beats(0, 1, 0, 2), LOST);
        due("which -1", x.beats(0, 1, 0, -1), LOST);
    }

    private static void kin() {
        LentChampions x = landOf("c5;o8;s4");
        due("not yet", x.kin(0, 1, false), 0);
        due("told", x.kin(0, 1, true), 1);
        due("was so", x.kin(0, 1, true), 0);
        due("was so, told from the other", x.kin(1, 0, true), 0);
        due("told", x.kin(1, 2, true), 1);
        due("KIN of KIN is no KIN", x.ofHouse(0, 2), 3);
        due("told off from the other", x.kin(1, 0, false), 1);
        due("both", x.ofHouse(0, 2), 1);
        due("both", x.ofHouse(1, 2), 6);
        due("one", x.kin(1, 1, true), U);
        due("one", x.kin(1, 1, false), U);
        due("h -1", x.kin(-1, 0, true), U);
        due("other 3", x.kin(0, 3, true), U);
    }

    private static void early() {
        LentChampions x = landOf("c5;o8;s4");
        due("c5 o8", x.early(0, 1, 0), 5);
        due("o8 c5", x.early(1, 0, 0), 4);
        due("o8 c5 from 3", x.early(1, 0, 3), 1);
        due("o8 c5 from 4", x.early(1, 0, 4), 0);
        due("o8 s4", x.early(1, 2, 0), 8);
        due("s4 o8", x.early(2, 1, 0), 1);
        due("itself", x.early(2, 2, 0), 8);
        due("itself in 7", x.early(2, 2, 7), 1);
        due("h 3", x.early(3, 0, 8), U);
        due("other -1", x.early(0, -1, 0), U);
        due("season 8", x.early(0, 1, 8), O);
        due("season -1", x.early(0, 1, -1), O);
    }

    private static void quarrels() {
        LentChampions x = landOf("c5;o8;s4");
        due("one", x.quarrel(1, 1, 0, 9), U);
        due("a -1", x.quarrel(-1, 0, 1, 0), U);
        due("b 3", x.quarrel(0, 3, 1, 0), U);
        due("stake 0", x.quarrel(0, 1, 0, 0), O);
        due("stake 100", x.quarrel(0, 1, 100, 0), O);
        due("season -1", x.quarrel(0, 1, 1, -1), O);
        due("season 8", x.quarrel(0, 1, 1, 8), O);
        due("none yet", x.many(1), 0);
        for (int q = 0; q < 8; q++) {
            due("quarrel " + q, x.quarrel(0, 1, q == 0 ? 1 : 99, q), q);
        }
        due("FULL", x.quarrel(0, 1, 1, 0), F);
        due("OUTSIDE ahead of FULL", x.quarrel(0, 1, 0, 0), O);
        due("UNKNOWN ahead of FULL", x.quarrel(0, 0, 1, 0), U);
        due("eight", x.many(1), 8);
    }

    private static void ofQuarrel() {
        LentChampions x = landOf("c5;o8;s4;c1");
        x.quarrel(0, 1, 7, 5);
        x.quarrel(2, 0, 99, 0);
        x.hire(1, 0, 1);
        int[] first = {0, 1, 7, 5, NONE, NONE};
        int[] second = {2, 0, 99, 0, 1, NONE};
        for (int what = 0; what < 6; what++) {
            due("first " + what, x.ofQuarrel(0, what), first[what]);
            due("second " + what, x.ofQuarrel(1, what), second[what]);
        }
        x.hire(1, 1, 3);
        due("side 1", x.ofQuarrel(1, 5), 3);
        due("q 2", x.ofQuarrel(2, 9), U);
        due("q -1", x.ofQuarrel(-1, 0), U);
        due("what -1", x.ofQuarrel(0, -1), O);
        due("what 6", x.ofQuarrel(0, 6), O);
    }

    private static void may() {
        LentChampions x = landOf("c5;o8;s4;s6;c9;o2");
        x.quarrel(0, 1, 50, 2);
        x.quarrel(2, 3, 50, 2);
        x.quarrel(2, 3, 50, 3);
        due("all but the sides", x.may(0, 0), 60);
        due("all but the sides", x.may(0, 1), 60);
        x.kin(1, 4, true);
        due("not KIN to the other side", x.may(0, 0), 44);
        due("KIN to the side itself", x.may(0, 1), 60);
        x.hire(1, 0, 5);
        due("not from another place", x.may(0, 0), 12);
        due("nor from the other side", x.may(1, 1), 19);
        due("who is HIRED there himself", x.may(1, 0), 51);
        due("another SEASON", x.may(2, 1), 51);
        x.kin(3, 5, true);
        due("KIN told later", x.may(1, 0), 19);
        due("the HIRE is left", x.ofQuarrel(1, 4), 5);
        due("q 3", x.may(3, 2), U);
        due("q -1", x.may(-1, 0), U);
        due("side 2", x.may(0, 2), O);
        due("side -1", x.may(0, -1), O);
    }

    private static void hire() {
        LentChampions x = landOf("c5;o8;s4;s6;c9;o2");
        x.quarrel(0, 1, 50, 2);
        x.quarrel(2, 3, 50, 2);
        x.quarrel(2, 3, 50, 3);
        due("its own", x.hire(0, 0, 0), S);
        due("the other side's", x.hire(0, 0, 1), S);
        due("for nobody", x.hire(0, 0, 2), NONE);
        due("himself again", x.hire(0, 0, 2), 2);
        due("in place of him", x.hire(0, 0, 3), 2);
        due("other side", x.hire(0, 1, 3), S);
        due("other place", x.hire(1, 0, 3), S);
        due("he left", x.hire(0, 1, 2), NONE);
        due("side's champion lent away", x.hire(1, 1, 0), NONE);
        due("another SEASON", x.hire(2, 1, 0), NONE);
        due("nobody", x.hire(0, 0, NONE), 3);
        due("nobody again", x.hire(0, 0, NONE), NONE);
        x.kin(0, 4, true);
        due("KIN to the other side", x.hire(0, 1, 4), S);
        due("the refusal changes nothing", x.ofQuarrel(0, 5), 2);
        x.kin(0, 2, true);
        due("himself, KIN by now", x.hire(0, 1, 2), S);
        due("left", x.ofQuarrel(0, 5), 2);
        due("nobody in his place", x.hire(0, 1, NONE), 2);
        due("q 3", x.hire(3, 2, 0), U);
        due("q -1", x.hire(-1, 0, 0), U);
        due("h 6", x.hire(0, 2, 6), U);
        due("h -1", x.hire(0, 0, -1), U);
        due("h -8", x.hire(0, 0, -8), U);
        due("side 2", x.hire(0, 2, 0), O);
        due("side -1", x.hire(0, -1, NONE), O);
    }

    private static void odds() {
        LentChampions x = landOf("c5;o8;s4;s6;c9;o2");
        x.quarrel(0, 1, 50, 1);
        share("none", x.odds(0, 0, 0), x.odds(0, 0, 1), 1, 2);
        x.hire(0, 1, 4);
        share("one alone", x.odds(0, 0, 0), x.odds(0, 0, 1), 0, 1);
        share("one alone", x.odds(0, 1, 0), x.odds(0, 1, 1), 1, 1);
        x.hire(0, 0, 2);
        share("s4 with c9 in 1", x.odds(0, 0, 0), x.odds(0, 0, 1), 1, 4);
        share("c9 with s4 in 1", x.odds(0, 1, 0), x.odds(0, 1, 1), 3, 4);
        x.hire(0, 1, 3);
        share("SWORN ones", x.odds(0, 1, 0), x.odds(0, 1, 1), 1, 2);
        due("q 1", x.odds(1, 0, 0), LOST);
        due("q -1", x.odds(-1, 0, 0), LOST);
        due("side 2", x.odds(0, 2, 0), LOST);
        due("side -1", x.odds(0, -1, 0), LOST);
        due("which 2", x.odds(0, 0, 2), LOST);
        due("which -1", x.odds(0, 0, -1), LOST);
    }

    private static void worth() {
        LentChampions x = landOf("c5;o8;s4;s6;c9;o2");
        x.quarrel(0, 1, 50, 1);
        share("none", x.worth(0, 0, 0), x.worth(0, 0, 1), 0, 1);
        x.hire(0, 1, 4);
        share("lost", x.worth(0, 0, 0), x.worth(0, 0, 1), -50, 1);
        share("won less a tenth", x.worth(0, 1, 0), x.worth(0, 1, 1), 45, 1);
        x.hire(0, 0, 2);
        // A quarter of 45 less three quarters of 50, and three of 45 less one of 50.
        share("side 0", x.worth(0, 0, 0), x.worth(0, 0, 1), -105, 4);
        share("side 1", x.worth(0, 1, 0), x.worth(0, 1, 1), 85, 4);
        x.quarrel(2, 3, 7, 0);
        x.hire(1, 1, 0);
        share("less 7 tenths", x.worth(1, 1, 0), x.worth(1, 1, 1), 63, 10);
        due("q 2", x.worth(2, 0, 0), LOST);
        due("q -1", x.worth(-1, 0, 0), LOST);
        due("side 2", x.worth(0, 2, 0), LOST);
        due("side -1", x.worth(0, -1, 0), LOST);
        due("which 2", x.worth(0, 0, 2), LOST);
        due("which -1", x.worth(0, 0, -1), LOST);
    }

    private static void worthTo() {
        LentChampions x = landOf("c5;o8;s4;s6;c9;o2");
        share("no QUARREL", x.worthTo(0, 0), x.worthTo(0, 1), 0, 1);
        x.quarrel(0, 1, 50, 1);
        x.quarrel(2, 0, 7, 6);
        x.hire(0, 1, 4);
        x.hire(0, 0, 2);
        x.hire(1, 1, 4);
        share("of two SEASONS", x.worthTo(0, 0), x.worthTo(0, 1), -399, 20);
        share("side 1", x.worthTo(1, 0), x.worthTo(1, 1), 85, 4);
        share("lost", x.worthTo(2, 0), x.worthTo(2, 1), -7, 1);
        share("lending is worth nothing", x.worthTo(4, 0), x.worthTo(4, 1), 0, 1);
        due("h 6", x.worthTo(6, 0), LOST);
        due("h -1", x.worthTo(-1, 0), LOST);
        due("which 2", x.worthTo(0, 2), LOST);
        due("which -1", x.worthTo(0, -1), LOST);
    }

    private static void best() {
        LentChampions x = landOf("c5;o8;s4;s6;c9;o2");
        x.quarrel(0, 1, 50, 0);
        x.quarrel(2, 0, 30, 0);
        x.quarrel(0, 3, 30, 1);
        due("alone is best with the first", x.best(0, 0, 0), 2);
        due("alone is best with the first", x.best(0, 0, 1), 1);
        share("45 and 27", x.bestWorth(0, 0, 0), x.bestWorth(0, 0, 1), 72, 1);
        x.hire(0, 1, 3);
        due("against s6 the c9", x.best(0, 0, 0), 4);
        due("the other needs none but the first", x.best(0, 0, 1), 1);
        // 9 of 15 of 45 less 6 of 15 of 50, and 27.
        share("worth", x.bestWorth(0, 0, 0), x.bestWorth(0, 0, 1), 34, 1);
        x.hire(1, 0, 4);
        // The c9 is gone: o8 against c9 about 30, or against s6 he MAY not be (KIN to himself).
        due("the others: s4, o2", x.best(0, 0, 0), 2);
        due("o8", x.best(0, 0, 1), 1);
        x.hire(0, 0, 5);
        x.hire(1, 1, 1);
        due("in place of whom it has", x.best(0, 0, 0), 2);
        due("in place of whom it has", x.best(0, 0, 1), 1);
        due("nothing is changed", x.ofQuarrel(0, 4), 5);
        due("of another SEASON", x.best(0, 0, 2), S);
        due("of that SEASON", x.best(0, 1, 2), 1);
        due("no place", x.best(4, 0, 0), S);
        due("h 6", x.best(6, 9, 0), U);
        due("h -1", x.best(-1, 0, 0), U);
        due("q 3", x.best(0, 9, 3), U);
        due("q -1", x.best(0, 0, -1), U);
        due("season 8", x.best(4, 8, 0), O);
        due("season -1", x.best(0, -1, 0), O);
    }

    private static void bestByKinAndNobody() {
        LentChampions x = landOf("c5;o8;s4");
        x.quarrel(0, 1, 50, 0);
        x.quarrel(0, 1, 60, 0);
        due("the only one goes where it is worth more", x.best(0, 0, 0), NONE);
        due("the only one goes where it is worth more", x.best(0, 0, 1), 2);
        share("0 and 54", x.bestWorth(0, 0, 0), x.bestWorth(0, 0, 1), 54, 1);
        x.hire(0, 0, 2);
        x.kin(1, 2, true);
        due("KIN by now", x.best(0, 0, 0), NONE);
        due("KIN by now", x.best(0, 0, 1), NONE);
        share("0", x.bestWorth(0, 0, 0), x.bestWorth(0, 0, 1), 0, 1);
        share("no place in that SEASON", x.bestWorth(0, 1, 0), x.bestWorth(0, 1, 1), 0, 1);
        due("for the other, whose place is free", x.best(1, 0, 0), NONE);
        due("for the other, s4 is lent", x.best(1, 0, 1), NONE);
        LentChampions y = landOf("c5;o8;s4");
        y.quarrel(0, 1, 50, 0);
        y.quarrel(1, 0, 50, 0);
        due("of equals the row with a HOUSE first", y.best(0, 0, 0), 2);
        due("nobody counts as 9", y.best(0, 0, 1), NONE);
        due("h 3", y.bestWorth(3, 0, 0), LOST);
        due("h -1", y.bestWorth(-1, 0, 0), LOST);
        due("season 8", y.bestWorth(0, 8, 0), LOST);
        due("season -1", y.bestWorth(0, -1, 0), LOST);
        due("which 2", y.bestWorth(0, 0, 2), LOST);
        due("which -1", y.bestWorth(0, 0, -1), LOST);
    }

    private static void peace() {
        LentChampions x = landOf("c5;o8;s4;s6;c9;o2");
        x.quarrel(0, 1, 50, 1);
        due("none HIRED: one sum", x.peace(0, 0), 1);
        due("0", x.peace(0, 1), 0);
        due("0", x.peace(0, 2), 0);
        x.hire(0, 1, 4);
        // -50 for side 0, 45 for side 1.
        due("sums", x.peace(0, 0), 6);
        due("least", x.peace(0, 1), -50);
        due("greatest", x.peace(0, 2), -45);
        x.hire(0, 0, 2);
        // -26 1/4 for side 0, 21 1/4 for side 1.
        due("sums", x.peace(0, 0), 5);
        due("least", x.peace(0, 1), -26);
        due("greatest", x.peace(0, 2), -22);
        x.quarrel(2, 3, 1, 0);
        x.hire(1, 0, 0);
        x.hire(1, 1, 1);
        // 5/13 of 9/10 less 8/13, which is -7/26, and 8/13 of 9/10 less 5/13, which is 11/65: none between.
        due("no sum", x.peace(1, 0), 0);
        due("no least", x.peace(1, 1), LOST);
        due("no greatest", x.peace(1, 2), LOST);
        due("q 2", x.peace(2, 0), LOST);
        due("q -1", x.peace(-1, 0), LOST);
        due("what 3", x.peace(0, 3), LOST);
        due("what -1", x.peace(0, -1), LOST);
    }

    private static void most() {
        LentChampions x = landOf("c5;o8;s4");
        x.quarrel(0, 1, 50, 0);
        x.quarrel(0, 2, 50, 0);
        x.quarrel(1, 2, 50, 1);
        due("three CHAMPIONS", x.most(0, -1), 2);
        due("HOUSE 2 for side 0", x.most(0, 0), 2);
        due("nobody for side 1", x.most(0, 1), NONE);
        due("HOUSE 1 for side 0", x.most(0, 2), 1);
        due("nobody", x.most(0, 3), NONE);
        due("there are fewer", x.most(0, 4), NONE);
        due("there are fewer", x.most(0, MAX), NONE);
        x.hire(2, 1, 0);
        due("as if nobody were HIRED", x.most(1, 0), 0);
        due("as if nobody were HIRED", x.most(1, 1), NONE);
        due("the HIRE stays", x.ofQuarrel(2, 5), 0);
        x.kin(0, 2, true);
        due("KIN to the other side", x.most(1, 0), NONE);
        due("KIN to the other side", x.most(1, 1), 0);
        due("no QUARREL", x.most(5, -1), 0);
        due("no QUARREL", x.most(5, 0), NONE);
        due("k -2", x.most(0, -2), U);
        due("k MIN", x.most(0, MIN), U);
        due("season 8", x.most(8, -2), O);
        due("season -1", x.most(-1, 0), O);
    }

    private static void mostOfMany() {
        LentChampions x = landOf("c5;o8;s4;s6;c9;o2");
        for (int q = 0; q < 8; q++) {
            x.quarrel(0, 1, 50, 7);
        }
        due("four may", x.most(7, -1), 4);
        int[] want = {2, 3, 4, 5, NONE, NONE};
        for (int k = 0; k < want.length; k++) {
            due("place " + k, x.most(7, k), want[k]);
        }
        // 2 is wanted by the last place alone (KIN to all but HOUSE 0), so 3 goes first.
        LentChampions y = landOf("c5;o8;s4;s6");
        y.quarrel(0, 1, 50, 0);
        y.kin(0, 3, true);
        due("two", y.most(0, -1), 2);
        due("3 stays for side 0", y.most(0, 0), 3);
        due("2 for side 1", y.most(0, 1), 2);
    }

    private static void book() {
        LentChampions x = landOf("c5;o8;s4;s6;c9;o2");
        x.kin(0, 5, true);
        x.quarrel(0, 1, 50, 0);
        x.quarrel(2, 0, 30, 0);
        x.quarrel(2, 0, 30, 1);
        x.hire(0, 0, 3);
        due("all may", books(x, 0, 0, 2, 0, 1, 3, 1, 0, 4), NONE);
        due("the HIRE stays", x.ofQuarrel(0, 4), 3);
        due("nobody more", x.many(2), 1);
        due("taken already", books(x, 0, 0, 2, 0, 0, 3), 1);
        due("taken by himself", books(x, 0, 0, 2, 0, 0, 2), 1);
        due("in another place", books(x, 0, 0, 3, 1, 0, 3), 1);
        due("in another SEASON", books(x, 0, 0, 3, 2, 0, 3), NONE);
        due("his own", books(x, 2, 0, 1, 0, 0, 0), 1);
        due("the other side's", books(x, 0, 0, 1), 0);
        due("KIN to the other side", books(x, 0, 0, 5, 0, 1, 5, 0, 1, 9), 1);
        due("KIN to the other side", books(x, 1, 0, 5), 0);
        due("no such QUARREL", books(x, 3, 0, 4), 0);
        due("no such QUARREL", books(x, -1, 0, 4), 0);
        due("no such side", books(x, 0, 2, 4), 0);
        due("no such side", books(x, 0, -1, 4), 0);
        due("no such HOUSE", books(x, 0, 0, 6), 0);
        due("nobody is no HOUSE", books(x, 0, 0, NONE), 0);
        due("of several the first", books(x, 0, 0, 2, 9, 9, 9, 0, 0, 2), 1);
        numbers(x, 0, 1, 7, 0, 0, 2);
        due("from the middle, as shorts", x.book(0, 1, 1, 1), NONE);
        due("sheet 4", x.book(4, 9, 0, -1), U);
        due("sheet -1", x.book(-1, 0, 0, 1), U);
        due("sort 3", x.book(0, 3, 0, -1), O);
        due("sort -1", x.book(1, -1, 0, 1), O);
        due("fault", x.fault(), 0);
        due("nothing is no CAST", x.book(2, 0, 9, -1), NULL);
        due("fault", x.fault(), 1);
        due("CAST ahead of SIZE", x.book(0, 2, 9, -1), CAST);
        due("fault", x.fault(), 2);
        due("SIZE ahead of INDEX", x.book(0, 1, 9, -1), SIZE);
        due("fault", x.fault(), 4);
        due("INDEX", x.book(0, 1, 2, 1), INDEX);
        due("fault", x.fault(), 3);
        due("INDEX of none", x.book(0, 1, 5, 0), INDEX);
        due("INDEX of none", x.book(0, 1, -1, 0), INDEX);
        due("none from the end", x.book(0, 1, 4, 0), NONE);
        due("fault", x.fault(), 0);
        due("14 are ahead of OUTSIDE no cells", x.book(0, 1, 0, 14), INDEX);
        due("three times it wraps", x.book(0, 1, 0, 1431655766), INDEX);
        due("three times it wraps", x.book(0, 1, 1, MAX), INDEX);
    }

    private static int books(LentChampions x, int... row) {
        numbers(x, 1, 2, row);
        int answer = x.book(1, 2, 0, row.length / 3);
        due("fault of a book", x.fault(), 0);
        return answer;
    }

    private static void longestBook() {
        LentChampions x = landOf("c5;o8;s4;s6");
        int[] row = new int[39];
        for (int k = 0; k < 13; k++) {
            row[3 * k] = k / 2;
            row[3 * k + 1] = k % 2;
            row[3 * k + 2] = 2 + k % 2;
        }
        for (int season = 0; season < 7; season++) {
            x.quarrel(0, 1, 1, season);
        }
        due("13 HIRES", books(x, row), NONE);
        row[38] = 0;
        due("the last", books(x, row), 12);
    }

    private static void changes() {
        LentChampions x = landOf("c5;o8;s4;s6");
        due("no QUARREL", x.changes(), 0);
        x.quarrel(0, 1, 50, 0);
        due("somebody for nobody", x.changes(), 3);
        x.hire(0, 0, 2);
        due("the other side", x.changes(), 2);
        x.hire(0, 1, 3);
        due("SWORN ones, none else free", x.changes(), 0);
        x.quarrel(2, 3, 50, 0);
        due("the second's sides", x.changes(), 12);
        LentChampions y = landOf("c5;o8;s4;c9;c9");
        y.quarrel(0, 1, 50, 0);
        y.hire(0, 0, 2);
        y.hire(0, 1, 3);
        due("a stronger one", y.changes(), 1);
        y.hire(0, 0, 4);
        due("like ones", y.changes(), 0);
        y.kin(1, 4, true);
        y.hire(0, 0, 2);
        due("KIN", y.changes(), 0);
        LentChampions z = landOf("c1;c1;c1;c9");
        z.quarrel(0, 1, 99, 0);
        z.quarrel(0, 1, 99, 1);
        z.hire(1, 1, 3);
        z.hire(1, 0, 2);
        due("c1 with c9 is more than nobody", z.changes(), 3);
    }

    private static void likeliest() {
        LentChampions x = new LentChampions();
        int[][] want = {{19, 91}, {19, 11, 91}, {19, 12, 21, 91}, {19, 13, 11, 31, 91}, {19, 14, 23, 32, 41, 91},
            {19, 15, 12, 11, 21, 51, 91}, {19, 16, 25, 34, 43, 52, 61, 91}, {19, 17, 13, 35, 11, 53, 31, 71, 91}};
        for (int n = 1; n <= 8; n++) {
            for (int w = 0; w <= n; w++) {
                due("likeliest(" + w + ", " + n + ")", x.likeliest(w, n), want[n - 1][w]);
            }
            due("w " + (n + 1), x.likeliest(n + 1, n), O);
            due("w -1", x.likeliest(-1, n), O);
        }
        due("n 0", x.likeliest(0, 0), O);
        due("n 9", x.likeliest(0, 9), O);
        due("n -1", x.likeliest(-1, -1), O);
    }

    private static void married() {
        LentChampions x = landOf("c5;o8;s4;s6;c9;o2");
        x.quarrel(0, 1, 50, 0);
        x.quarrel(2, 0, 30, 0);
        x.quarrel(3, 0, 40, 7);
        x.hire(0, 0, 2);
        x.hire(0, 1, 4);
        x.hire(1, 0, 3);
        // s4 with c9: 4/13 of 45 less 9/13 of 50, which is -270/13; alone 45.
        share("4 leaves the other side", x.married(0, 4, 0), x.married(0, 4, 1), 855, 13);
        due("nothing is changed", x.many(2), 3);
        due("nothing is changed", x.ofHouse(0, 2), 1);
        share("with 3: q1's side 0 loses him", x.married(0, 3, 0), x.married(0, 3, 1), 30, 1);
        share("nobody's HIRE", x.married(0, 5, 0), x.married(0, 5, 1), 0, 1);
        // c9 with s4: 9/13 of 45 less 4/13 of 50, which is 205/13; alone 45.
        share("1 with 2: side 0 of q0 loses him", x.married(1, 2, 0), x.married(1, 2, 1), 380, 13);
        share("2 with 5, which touches none", x.married(2, 5, 0), x.married(2, 5, 1), 0, 1);
        share("of all sides: 2 and 1", x.married(2, 1, 0), x.married(2, 1, 1), 0, 1);
        x.kin(0, 4, true);
        share("KIN already: a HIRE that MAY not be falls away",
            x.married(0, 4, 0), x.married(0, 4, 1), 855, 13);
        share("KIN told later falls away with another marriage, too",
            x.married(0, 5, 0), x.married(0, 5, 1), 855, 13);
        due("one", x.married(0, 0, 0), LOST);
        due("h 6", x.married(6, 0, 0), LOST);
        due("other -1", x.married(0, -1, 0), LOST);
        due("which 2", x.married(0, 1, 2), LOST);
        due("which -1", x.married(0, 1, -1), LOST);
    }

    private static void sheets() {
        LentChampions x = new LentChampions();
        due("a row", x.sheet(0, 0, 40), 1);
        due("a row of none", x.sheet(3, 2, 0), 1);
        due("fault", x.fault(), 0);
        x.put(0, 39, 5);
        due("k -1", x.sheet(-1, 9, -1), U);
        due("k 4", x.sheet(4, 0, 1), U);
        due("sort -1", x.sheet(0, -1, -1), O);
        due("sort 3", x.sheet(0, 3, 1), O);
        due("n 41", x.sheet(0, 0, 41), O);
        due("n MAX", x.sheet(0, 0, MAX), O);
        due("fault", x.fault(), 0);
        due("SIZE", x.sheet(0, 1, -1), SIZE);
        due("fault", x.fault(), 4);
        due("SIZE", x.sheet(0, 1, MIN), SIZE);
        due("nothing is changed", x.cell(0, 39, 0), 5);
        due("anew", x.sheet(0, 0, 40), 1);
        due("0 at first", x.cell(0, 39, 0), 0);
        x.put(0, 39, 5);
        due("anew, shorter", x.sheet(0, 0, 3), 1);
        due("shorter", x.cell(0, 39, 0), LOST);
        due("anew, longer", x.sheet(0, 1, 40), 1);
        due("0 at first", x.cell(0, 39, 1), 0);
    }

    private static void lose() {
        LentChampions x = new LentChampions();
        due("had nothing", x.lose(1), 0);
        x.sheet(1, 0, 0);
        due("had a row", x.lose(1), 1);
        due("had nothing", x.lose(1), 0);
        due("k -1", x.lose(-1), U);
        due("k 4", x.lose(4), U);
        x.put(1, 0, 0);
        due("names no FAULT", x.lose(1), 0);
        due("fault", x.fault(), 1);
    }

    private static void put() {
        LentChampions x = new LentChampions();
        x.sheet(0, 0, 2);
        x.sheet(1, 1, 2);
        x.sheet(2, 2, 2);
        int[] values = {127, 128, -129, 255, 256, 32768, 65536 + 99, MIN, MAX};
        for (int v : values) {
            for (int k = 0; k < 3; k++) {
                due("put", x.put(k, 1, v), 1);
            }
            due("byte " + v, x.cell(0, 1, 0), (byte) v);
            due("short " + v, x.cell(1, 1, 1), (short) v);
            due("int " + v, x.cell(2, 1, 2), v);
            due("its neighbour", x.cell(2, 0, 2), 0);
        }
        due("k 4", x.put(4, 9, 0), U);
        due("k -1", x.put(-1, 0, 0), U);
        due("nothing", x.put(3, 9, 0), NULL);
        due("fault", x.fault(), 1);
        due("i 2", x.put(0, 2, 0), INDEX);
        due("i -1", x.put(0, -1, 0), INDEX);
        due("fault", x.fault(), 3);
        due("put", x.put(0, 0, 0), 1);
        due("fault", x.fault(), 0);
    }

    private static void cell() {
        LentChampions x = new LentChampions();
        numbers(x, 0, 1, 7, -8);
        due("cell 0", x.cell(0, 0, 1), 7);
        due("cell 1", x.cell(0, 1, 1), -8);
        due("fault", x.fault(), 0);
        due("k 4", x.cell(4, 0, 0), LOST);
        due("fault", x.fault(), 0);
        due("CAST", x.cell(0, 9, 2), LOST);
        due("fault", x.fault(), 2);
        due("sort 3", x.cell(0, 0, 3), LOST);
        due("fault", x.fault(), 0);
        due("NULL", x.cell(1, 9, 0), LOST);
        due("fault", x.fault(), 1);
        due("sort -1", x.cell(1, 0, -1), LOST);
        due("fault", x.fault(), 0);
        due("INDEX", x.cell(0, 2, 1), LOST);
        due("fault", x.fault(), 3);
        due("k -1", x.cell(-1, 0, 0), LOST);
        due("fault", x.fault(), 0);
        due("INDEX", x.cell(0, -1, 1), LOST);
        due("fault", x.fault(), 3);
    }

    private static void copy() {
        LentChampions x = new LentChampions();
        numbers(x, 0, 1, 1, 2, 3, 4, 5);
        numbers(x, 1, 1, 9, 9, 9);
        numbers(x, 2, 2, 1, 2);
        due("to another", x.copy(0, 1, 1, 0, 2), 2);
        due("cells", 100 * x.cell(1, 0, 1) + 10 * x.cell(1, 1, 1) + x.cell(1, 2, 1), 239);
        due("to itself, forward", x.copy(0, 0, 0, 1, 4), 4);
        due("as they were", x.cell(0, 1, 1) * 1000 + x.cell(0, 2, 1) * 100 + x.cell(0, 3, 1) * 10 + x.cell(0, 4, 1), 1234);
        due("to itself, back", x.copy(0, 1, 0, 0, 4), 4);
        due("as they were", x.cell(0, 0, 1) * 1000 + x.cell(0, 1, 1) * 100 + x.cell(0, 2, 1) * 10 + x.cell(0, 3, 1), 1234);
        due("none from the ends", x.copy(0, 5, 1, 3, 0), 0);
        due("fault", x.fault(), 0);
        due("k 4", x.copy(4, 0, 3, 0, 1), U);
        due("k -1", x.copy(-1, 0, 3, 0, 1), U);
        due("other 4", x.copy(3, 0, 4, 0, 1), U);
        due("other -1", x.copy(3, 0, -1, 0, 1), U);
        due("the first has nothing", x.copy(3, 0, 2, 0, -1), NULL);
        due("fault", x.fault(), 1);
        due("the other has nothing", x.copy(2, 0, 3, 0, -1), NULL);
        due("CAST", x.copy(0, 9, 2, 9, -1), CAST);
        due("fault", x.fault(), 2);
        int[][] bad = {{0, 0, -1}, {-1, 0, 0}, {0, -1, 0}, {6, 0, 0}, {0, 4, 0}, {3, 0, 3}, {0, 1, 3}, {1, 1, MAX},
            {MAX, 0, 1}, {0, MAX, 1}, {0, 0, MIN}, {MAX, MAX, MAX}};
        for (int[] b : bad) {
            due("INDEX", x.copy(0, b[0], 1, b[1], b[2]), INDEX);
            due("fault", x.fault(), 3);
        }
        due("nothing is changed", x.cell(1, 0, 1), 2);
    }

    private static void tellings() {
        LentChampions x = landOf("c5;o8;s4");
        promise = 28;
        due("CHAMPION", x.tell(0), 5);
        due("trace", x.trace(), 1);
        due("OLD", x.tell(1), 108);
        due("trace", x.trace(), (1 * 31 + 2) * 31 + 1);
        due("h 3", x.tell(3), U);
        due("h -1", x.tell(-1), U);
        int before = x.trace();
        due("SWORN", x.tell(2), 108);
        int after = (((before * 31 + 3) * 31 + 2) * 31 + 1) * 31 + 1;
        promise = 31;
        due("trace", x.trace(), after);
        promise = 29;
        due("lent", x.call(1), 1);
        due("trace", x.trace(), after * 31 + 4);
        due("SWORN", x.call(2), 70);
        due("trace", x.trace(), (after * 31 + 4) * 31 + 5);
        due("h 3", x.call(3), U);
        due("h -1", x.call(-1), U);
        due("trace", x.trace(), (after * 31 + 4) * 31 + 5);
        LentChampions y = landOf("c5;o8");
        due("lent", y.call(1), 1);
        due("trace", y.trace(), 4);
        promise = 31;
        int wraps = 4;
        for (int turn = 0; turn < 20; turn++) {
            y.tell(0);
            wraps = 31 * wraps + 1;
        }
        due("wraps", y.trace(), wraps);
    }

    private static void as() {
        LentChampions x = landOf("c5;o8;s4");
        for (int h = 0; h < 3; h++) {
            for (int kind = 0; kind < 3; kind++) {
                due("as(" + h + ", " + kind + ")", x.as(h, kind), kind <= h ? 1 : CAST);
                due("fault", x.fault(), kind <= h ? 0 : 2);
            }
        }
        x.as(0, 2);
        due("h 3", x.as(3, 9), U);
        due("fault", x.fault(), 0);
        due("h -1", x.as(-1, 0), U);
        x.as(0, 2);
        due("kind 3", x.as(0, 3), O);
        due("kind -1", x.as(0, -1), O);
        due("fault", x.fault(), 0);
    }

    private static void faults() {
        LentChampions x = landOf("c5;o8;s4");
        x.put(0, 0, 0);
        due("NULL", x.fault(), 1);
        x.ofHouse(9, 9);
        x.many(9);
        x.hire(9, 9, 9);
        x.lose(9);
        x.tell(9);
        x.trace();
        due("calls that name none leave it", x.fault(), 1);
        x.put(9, 0, 0);
        due("a refused one does not", x.fault(), 0);
        x.sheet(0, 0, -1);
        due("SIZE", x.fault(), 4);
        x.copy(0, 0, 9, 0, 0);
        due("refused", x.fault(), 0);
    }

    private static void many() {
        LentChampions x = landOf("c5;o8;s4");
        x.quarrel(0, 1, 1, 0);
        x.quarrel(1, 2, 1, 0);
        x.hire(0, 1, 2);
        x.hire(1, 0, 0);
        due("HOUSES", x.many(0), 3);
        due("QUARRELS", x.many(1), 2);
        due("HIRED", x.many(2), 2);
        x.hire(0, 1, NONE);
        due("HIRED", x.many(2), 1);
        due("what 3", x.many(3), O);
        due("what -1", x.many(-1), O);
    }

    private static void first() {
        promise = 1;
        newObject();
        promise = 2;
        texts();
        cellsOfTexts();
        allAnew();
        promise = 3;
        ofHouse();
        promise = 4;
        forces();
        promise = 5;
        beats();
        promise = 6;
        kin();
        promise = 7;
        early();
        promise = 8;
        quarrels();
        promise = 9;
        ofQuarrel();
        promise = 10;
        may();
        promise = 11;
        hire();
        promise = 12;
        odds();
        promise = 13;
        worth();
        promise = 14;
        worthTo();
    }

    private static void second() {
        promise = 15;
        best();
        promise = 16;
        bestByKinAndNobody();
        promise = 17;
        peace();
        promise = 18;
        most();
        mostOfMany();
        promise = 19;
        book();
        longestBook();
        promise = 20;
        changes();
        promise = 21;
        likeliest();
        promise = 22;
        married();
        promise = 23;
        sheets();
        promise = 24;
        lose();
        promise = 25;
        put();
        promise = 26;
        cell();
        promise = 27;
        copy();
        tellings();
        promise = 30;
        as();
        promise = 32;
        faults();
        promise = 33;
        many();
    }

    public static void main(String[] args) {
        first();
        second();
        System.out.println(wrong == 0 ? "all promises hold" : wrong + " answers are not as due");
        if (wrong != 0) {
            System.exit(1);
        }
    }
}
