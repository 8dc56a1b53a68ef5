/**
 * For each sentence of the document that names a boundary case a test of its own, told by the sentence: the last
 * number that is taken and the first that is not, empty and full, a wrap-around, what stays behind a refused call.
 * (Which refusal comes first is looked at in RefusalsTest, with every mixture of wrong numbers.)
 */
public final class BoundariesTest {
    private static final int U = LentChampions.UNKNOWN, O = LentChampions.OUTSIDE, S = LentChampions.STATE,
        F = LentChampions.FULL, NONE = LentChampions.NONE;
    private static final long LOST = LentChampions.LOST;
    private static final int NULL = -11, CAST = -12, INDEX = -13, SIZE = -14;
    private static final int MIN = Integer.MIN_VALUE, MAX = Integer.MAX_VALUE;

    private static int wrong = 0;
    private static int tests = 0;
    private static String now = "";

    private interface Test {
        void run();
    }

    private static void test(String sentence, Test test) {
        now = sentence;
        tests++;
        test.run();
    }

    private static void due(String call, long got, long want) {
        if (got != want) {
            wrong++;
            System.out.println(now + "\n    " + call + " answered " + got + ", due is " + want);
        }
    }

    private static void share(String call, long upper, long lower, long wantUpper, long wantLower) {
        due(call + ", upper number", upper, wantUpper);
        due(call + ", lower number", lower, wantLower);
    }

    private static void write(LentChampions x, int k, int sort, String text) {
        x.sheet(k, sort, text.length());
        for (int i = 0; i < text.length(); i++) {
            x.put(k, i, text.charAt(i));
        }
    }

    private static int settle(LentChampions x, String text) {
        write(x, 3, 0, text);
        return x.land(3, 0, 0, text.length());
    }

    private static LentChampions landOf(String text) {
        LentChampions x = new LentChampions();
        due("land of " + text, settle(x, text), (text.length() + 1) / 3);
        return x;
    }

    private static void numbers(LentChampions x, int k, int sort, int... row) {
        x.sheet(k, sort, row.length);
        for (int i = 0; i < row.length; i++) {
            x.put(k, i, row[i]);
        }
    }

    private static void row(LentChampions x, int k, int sort, int... want) {
        for (int i = 0; i < want.length; i++) {
            due("cell(" + k + ", " + i + ", " + sort + ")", x.cell(k, i, sort), want[i]);
        }
        due("the cell behind the last", x.cell(k, want.length, sort), LOST);
        due("its fault", x.fault(), 3);
    }

    private static int book(LentChampions x, int... row) {
        numbers(x, 1, 2, row);
        return x.book(1, 2, 0, row.length / 3);
    }

    // ---- the terms

    private static void faultNumbers() {
        LentChampions x = landOf("c5;o8");
        due("NULL", x.put(0, 0, 0), -11);
        due("fault", x.fault(), 1);
        due("CAST", x.as(0, 1), -12);
        due("fault", x.fault(), 2);
        due("INDEX", x.put(3, 5, 0), -13);
        due("fault", x.fault(), 3);
        due("SIZE", x.sheet(0, 0, -1), -14);
        due("fault", x.fault(), 4);
        due("a long is answered", x.cell(0, 0, 0), LOST);
        due("fault", x.fault(), 1);
    }

    private static void noneTaken() {
        LentChampions x = new LentChampions();
        x.sheet(0, 2, 3);
        x.sheet(1, 2, 0);
        int[] in = {0, 1, 3};
        int[] out = {-1, 4, 5, MIN, MAX};
        for (int i : in) {
            due("land of none from " + i, x.land(0, 2, i, 0), -100);
            due("book of none from " + i, x.book(0, 2, i, 0), NONE);
            due("copy of none from " + i, x.copy(0, i, 0, 0, 0), 0);
            due("copy of none to " + i, x.copy(0, 0, 0, i, 0), 0);
            due("fault", x.fault(), 0);
        }
        for (int i : out) {
            due("land of none from " + i, x.land(0, 2, i, 0), INDEX);
            due("book of none from " + i, x.book(0, 2, i, 0), INDEX);
            due("copy of none from " + i, x.copy(0, i, 0, 0, 0), INDEX);
            due("copy of none to " + i, x.copy(0, 0, 0, i, 0), INDEX);
            due("fault", x.fault(), 3);
        }
        due("none of an empty row", x.land(1, 2, 0, 0), -100);
        due("none of an empty row", x.copy(1, 0, 1, 0, 0), 0);
        due("none from 1 on of an empty row", x.land(1, 2, 1, 0), INDEX);
        due("none from 1 on of an empty row", x.copy(1, 1, 1, 0, 0), INDEX);
    }

    private static void leastTerms() {
        LentChampions x = landOf("c3;c9;c6;c2");
        share("3 of 12", x.beats(0, 1, 0, 0), x.beats(0, 1, 0, 1), 1, 4);
        share("6 of 15", x.beats(2, 1, 0, 0), x.beats(2, 1, 0, 1), 2, 5);
        x.quarrel(0, 1, 20, 0);
        share("0 is 0 of 1", x.worth(0, 0, 0), x.worth(0, 0, 1), 0, 1);
        x.hire(0, 0, 3);
        share("below 0 by the upper number", x.worth(0, 1, 0), x.worth(0, 1, 1), -20, 1);
        share("0 of 1", x.odds(0, 1, 0), x.odds(0, 1, 1), 0, 1);
        share("1 of 1", x.odds(0, 0, 0), x.odds(0, 0, 1), 1, 1);
        x.hire(0, 1, 2);
        // A quarter of 18 less three of 20, which is -42/4.
        share("-42 of 4", x.worth(0, 0, 0), x.worth(0, 0, 1), -21, 2);
        share("34 of 4", x.worth(0, 1, 0), x.worth(0, 1, 1), 17, 2);
    }

    // ---- 1 the land

    private static void howManyHouses() {
        LentChampions x = new LentChampions();
        String six = "c1;o2;s3;c4;o5;s6";
        due("one HOUSE ends too soon", settle(x, "c1"), -102);
        due("no HOUSE yet", x.many(0), 0);
        for (int n = 2; n <= 6; n++) {
            due(n + " HOUSES", settle(x, six.substring(0, 3 * n - 1)), n);
            due("many", x.many(0), n);
            due("the last", x.ofHouse(n - 1, 1), n);
            due("none behind it", x.ofHouse(n, 1), U);
        }
        due("a seventh HOUSE: its ;", settle(x, six + ";c7"), -117);
        due("the ; of a seventh HOUSE alone", settle(x, six + ";"), -117);
        due("another code there", settle(x, six + "c"), -117);
        due("the six stay", x.many(0), 6);
    }

    private static void digitsAndLetters() {
        LentChampions x = new LentChampions();
        for (char code = 32; code < 127; code++) {
            boolean letter = code == 'c' || code == 'o' || code == 's';
            boolean digit = code >= '1' && code <= '9';
            if (code % 2 == 0 || letter || digit || code == ';' || code == ':' || code == '/') {
                write(x, 0, 1, "c1;c1");
                x.put(0, 0, code);
                due("letter " + code, x.land(0, 1, 0, 5), letter ? 2 : -100);
                x.put(0, 0, 'c');
                x.put(0, 4, code);
                due("digit " + code, x.land(0, 1, 0, 5), digit ? 2 : -104);
            }
            if (code == 80) {
                x = new LentChampions();
            }
        }
    }

    private static void firstFaultOfSeveral() {
        LentChampions x = new LentChampions();
        due("the first of two", settle(x, "x1;y1"), -100);
        due("the first of two", settle(x, "c1:c0"), -102);
        due("ahead of the too soon end", settle(x, "c1;x"), -103);
        due("with a ; behind the last HOUSE it ends too soon", settle(x, "c1;o2;"), -106);
        due("within a HOUSE", settle(x, "c1;o2;s"), -107);
        due("two digits", settle(x, "c11;o2"), -102);
        due("no ; between", settle(x, "c1o2"), -102);
        due("two ;", settle(x, "c1;;o2"), -103);
        due("a ; ahead", settle(x, ";c1;o2"), -100);
        due("no code at all", settle(x, ""), -100);
        due("no HOUSE by all this", x.many(0), 0);
    }

    private static void codesOfCells() {
        LentChampions x = new LentChampions();
        numbers(x, 0, 0, 99 - 256, 49 + 512, 59, 111, 57);
        due("bytes are cut as they come to their cells", x.land(0, 0, 0, 5), 2);
        numbers(x, 0, 1, 99 + 65536, 49 - 65536, 59, 111, 57);
        due("shorts likewise", x.land(0, 1, 0, 5), 2);
        numbers(x, 0, 1, 99, 49 + 256, 59, 111, 57);
        due("a short is no byte", x.land(0, 1, 0, 5), -101);
        numbers(x, 0, 2, 99, 49, 59 + 65536, 111, 57);
        due("an int is no short", x.land(0, 2, 0, 5), -102);
        numbers(x, 0, 2, 99, 49, 59, -111, 57);
        due("below 0", x.land(0, 2, 0, 5), -103);
        numbers(x, 0, 2, 99, 49, 59, 111, 57 + 256);
        due("the last", x.land(0, 2, 0, 5), -104);
    }

    private static void placeWithinTheText() {
        LentChampions x = new LentChampions();
        write(x, 0, 0, "#####c1;o2;s3#");
        due("the place is counted from i on", x.land(0, 0, 5, 9), -108);
        due("up to n alone", x.land(0, 0, 5, 8), 3);
        due("fewer codes", x.land(0, 0, 5, 5), 2);
        due("it ends too soon there", x.land(0, 0, 5, 6), -106);
        due("from the second HOUSE on", x.land(0, 0, 8, 5), 2);
        due("its kind", x.ofHouse(0, 0), 1);
    }

    private static void longestRowOfText() {
        LentChampions x = new LentChampions();
        x.sheet(0, 2, 40);
        String six = "s9;s9;s9;s9;s9;s9";
        for (int i = 0; i < 17; i++) {
            x.put(0, 23 + i, six.charAt(i));
        }
        due("the last 17 of 40 cells", x.land(0, 2, 23, 17), 6);
        due("one cell more", x.land(0, 2, 23, 18), INDEX);
        due("one cell later", x.land(0, 2, 24, 17), INDEX);
        due("all 40", x.land(0, 2, 0, 40), -100);
        due("the LAND stays", x.ofHouse(5, 1), 9);
    }

    private static void takenMakesAnew() {
        LentChampions x = landOf("c5;o8;s4;s6;c9;o2");
        for (int h = 1; h < 6; h++) {
            x.kin(0, h, true);
        }
        for (int q = 0; q < 8; q++) {
            due("quarrel", x.quarrel(1, 2, 9, 0), q);
        }
        due("hire", x.hire(0, 0, 3), NONE);
        due("hire", x.hire(7, 1, 4), NONE);
        due("FULL", x.quarrel(1, 2, 9, 0), F);
        due("the same TEXT again", settle(x, "c5;o8;s4;s6;c9;o2"), 6);
        for (int h = 0; h < 6; h++) {
            due("no KIN", x.ofHouse(h, 2), 1 << h);
        }
        due("no QUARRELS", x.many(1), 0);
        due("no HIRES", x.many(2), 0);
        due("no QUARREL 0", x.ofQuarrel(0, 0), U);
        due("worth", x.worthTo(1, 0), 0);
        due("changes", x.changes(), 0);
        for (int q = 0; q < 8; q++) {
            due("eight again", x.quarrel(1, 2, 9, 0), q);
            due("nobody", x.ofQuarrel(q, 4), NONE);
            due("nobody", x.ofQuarrel(q, 5), NONE);
        }
        due("HOUSE 3 is free", x.may(0, 0), 57);
        due("FULL again", x.quarrel(1, 2, 9, 0), F);
    }

    private static void notTakenLeaves() {
        LentChampions x = landOf("c5;o8;s4");
        x.kin(0, 1, true);
        x.quarrel(0, 1, 9, 0);
        x.hire(0, 0, 2);
        due("FIRST FAULT", settle(x, "s9;s9;s9;"), -109);
        due("INDEX", x.land(3, 0, 0, 10), INDEX);
        due("SIZE", x.land(3, 0, 0, -1), SIZE);
        due("CAST", x.land(3, 1, 0, 8), CAST);
        due("NULL", x.land(0, 1, 0, 8), NULL);
        due("OUTSIDE", x.land(3, 3, 0, 8), O);
        due("UNKNOWN", x.land(4, 0, 0, 8), U);
        due("HOUSES", x.many(0), 3);
        due("kind", x.ofHouse(0, 0), 0);
        due("STRENGTH", x.ofHouse(0, 1), 5);
        due("KIN", x.ofHouse(0, 2), 3);
        due("QUARRELS", x.many(1), 1);
        due("HIRED", x.ofQuarrel(0, 4), 2);
    }

    private static void kindsByLetters() {
        LentChampions x = landOf("s1;o9;c5;c5;o9;s1");
        int[] want = {2, 1, 0, 0, 1, 2};
        for (int h = 0; h < 6; h++) {
            due("kind of HOUSE " + h, x.ofHouse(h, 0), want[h]);
            due("STRENGTH of HOUSE " + h, x.ofHouse(h, 1), want[h] == 2 ? 1 : want[h] == 1 ? 9 : 5);
        }
    }

    private static void forceAtLeastOne() {
        LentChampions x = landOf("o1;o7;o8;o9;s7;s8");
        int[] strengths = {1, 7, 8, 9, 7, 8};
        for (int h = 0; h < 6; h++) {
            for (int season = 0; season < 8; season++) {
                int want = strengths[h] > season ? strengths[h] - season : 1;
                due("force(" + h + ", " + season + ")", x.force(h, season), want);
            }
        }
        LentChampions y = landOf("c1;c9");
        for (int season = 0; season < 8; season++) {
            due("c1", y.force(0, season), 1);
            due("c9", y.force(1, season), 9);
        }
        due("SEASON 8", y.force(1, 8), O);
        due("SEASON -1", y.force(1, -1), O);
    }

    private static void swornEachOther() {
        LentChampions x = landOf("s9;s1;o9;c1");
        for (int season = 0; season < 8; season++) {
            share("s9 and s1", x.beats(0, 1, season, 0), x.beats(0, 1, season, 1), 1, 2);
            share("s1 and s9", x.beats(1, 0, season, 0), x.beats(1, 0, season, 1), 1, 2);
        }
        share("SWORN and OLD by FORCE", x.beats(1, 2, 0, 0), x.beats(1, 2, 0, 1), 1, 10);
        share("OLD and SWORN by FORCE", x.beats(2, 1, 7, 0), x.beats(2, 1, 7, 1), 2, 3);
        share("SWORN and CHAMPION by FORCE", x.beats(0, 3, 0, 0), x.beats(0, 3, 0, 1), 9, 10);
        share("SWORN and CHAMPION in 7", x.beats(0, 3, 7, 0), x.beats(0, 3, 7, 1), 2, 3);
        LentChampions y = landOf("s9;s1;o9;c1");
        y.quarrel(2, 3, 10, 0);
        y.hire(0, 0, 0);
        y.hire(0, 1, 1);
        share("hired ones, too", y.odds(0, 0, 0), y.odds(0, 0, 1), 1, 2);
        share("each other", y.odds(0, 1, 0), y.odds(0, 1, 1), 1, 2);
    }

    private static void greatestForces() {
        LentChampions x = landOf("c9;c9;c8;c1");
        share("9 with 9", x.beats(0, 1, 7, 0), x.beats(0, 1, 7, 1), 1, 2);
        share("9 with 8", x.beats(0, 2, 7, 0), x.beats(0, 2, 7, 1), 9, 17);
        share("8 with 9", x.beats(2, 0, 7, 0), x.beats(2, 0, 7, 1), 8, 17);
        share("1 with 9", x.beats(3, 0, 7, 0), x.beats(3, 0, 7, 1), 1, 10);
        due("which 2", x.beats(0, 1, 7, 2), LOST);
        due("SEASON 8", x.beats(0, 1, 8, 0), LOST);
        due("they are one", x.beats(0, 0, 0, 0), LOST);
    }

    private static void kinIsTold() {
        LentChampions x = landOf("c5;o8;s4;s6;c9;o2");
        due("first and last", x.kin(0, 5, true), 1);
        due("a set with bit 5", x.ofHouse(0, 2), 33);
        due("a set with bit 0", x.ofHouse(5, 2), 33);
        due("it was so", x.kin(5, 0, true), 0);
        due("off", x.kin(5, 0, false), 1);
        due("it was so", x.kin(0, 5, false), 0);
        due("itself stays", x.ofHouse(0, 2), 1);
        for (int h = 0; h < 6; h++) {
            due("itself is refused", x.kin(h, h, false), U);
            due("itself is refused", x.kin(h, h, true), U);
            due("itself", x.ofHouse(h, 2), 1 << h);
        }
        for (int h = 0; h < 5; h++) {
            due("kin to the next", x.kin(h, h + 1, true), 1);
        }
        due("two alone", x.ofHouse(0, 2), 3);
        due("three", x.ofHouse(3, 2), 28);
        due("two alone", x.ofHouse(5, 2), 48);
        due("HOUSE 6", x.kin(0, 6, true), U);
        due("HOUSE -1", x.kin(-1, 0, true), U);
    }

    // ---- 2 quarrels

    private static void eightEver() {
        LentChampions x = landOf("c5;o8;s4");
        for (int q = 0; q < 8; q++) {
            due("none of that number yet", x.ofQuarrel(q, 0), U);
            due("numbered as they come", x.quarrel(q % 3, (q + 1) % 3, q + 1, 7 - q), q);
            due("many", x.many(1), q + 1);
        }
        due("a ninth", x.quarrel(0, 1, 1, 0), F);
        due("none of its number", x.ofQuarrel(8, 0), U);
        due("many", x.many(1), 8);
        for (int q = 0; q < 8; q++) {
            due("side 0", x.ofQuarrel(q, 0), q % 3);
            due("side 1", x.ofQuarrel(q, 1), (q + 1) % 3);
            due("STAKE", x.ofQuarrel(q, 2), q + 1);
            due("SEASON", x.ofQuarrel(q, 3), 7 - q);
            due("nobody", x.ofQuarrel(q, 4), NONE);
            due("nobody", x.ofQuarrel(q, 5), NONE);
        }
    }

    private static void stakesAndSeasons() {
        LentChampions x = landOf("c5;o8;s4");
        int[] bad = {0, 100, -1, 128, 256 + 1, 65536 + 1, MIN, MAX};
        for (int stake : bad) {
            due("STAKE " + stake, x.quarrel(0, 1, stake, 0), O);
        }
        int[] never = {-1, 8, 256, MIN, MAX};
        for (int season : never) {
            due("SEASON " + season, x.quarrel(0, 1, 1, season), O);
        }
        due("none came", x.many(1), 0);
        due("STAKE 1, SEASON 0", x.quarrel(0, 1, 1, 0), 0);
        due("STAKE 99, SEASON 7", x.quarrel(1, 0, 99, 7), 1);
        due("STAKE", x.ofQuarrel(1, 2), 99);
        due("SEASON", x.ofQuarrel(1, 3), 7);
        due("with itself", x.quarrel(2, 2, 1, 0), U);
        due("HOUSE 3", x.quarrel(2, 3, 1, 0), U);
        due("HOUSE -1", x.quarrel(-1, 2, 1, 0), U);
        due("two", x.many(1), 2);
    }

    private static void mayOfTwoHouses() {
        LentChampions x = landOf("c5;o8");
        x.quarrel(0, 1, 9, 0);
        due("nobody fights for himself", x.may(0, 0), 0);
        due("nor the other side", x.may(0, 1), 0);
        due("hire", x.hire(0, 0, 0), S);
        due("hire", x.hire(0, 0, 1), S);
        due("nobody may always be", x.hire(0, 0, NONE), NONE);
        due("most", x.most(0, -1), 0);
        due("best", x.best(0, 0, 0), NONE);
        due("changes", x.changes(), 0);
    }

    private static void notKinToTheOtherSide() {
        LentChampions x = landOf("c5;o8;s4;s6");
        x.quarrel(0, 1, 9, 0);
        x.kin(0, 2, true);
        due("KIN to his side is no matter", x.may(0, 0), 12);
        due("KIN to the other side", x.may(0, 1), 8);
        due("hire", x.hire(0, 1, 2), S);
        due("hire", x.hire(0, 0, 2), NONE);
        x.kin(0, 1, true);
        due("sides that are KIN", x.may(0, 1), 8);
        x.kin(1, 3, true);
        due("KIN of KIN is no matter", x.may(0, 0), 4);
        x.kin(0, 2, false);
        due("no KIN any more, but lent", x.may(0, 1), 8);
        x.hire(0, 0, NONE);
        due("no KIN any more", x.may(0, 1), 12);
    }

    private static void noOtherPlaceInThatSeason() {
        LentChampions x = landOf("c5;o8;s4;s6;c9;o2");
        x.quarrel(0, 1, 9, 3);
        x.quarrel(0, 1, 9, 3);
        x.quarrel(0, 1, 9, 4);
        x.quarrel(0, 1, 9, 2);
        due("hire", x.hire(0, 0, 2), NONE);
        due("here himself", x.may(0, 0), 60);
        due("the other side", x.may(0, 1), 56);
        due("another QUARREL", x.may(1, 0), 56);
        due("the SEASON behind", x.may(2, 0), 60);
        due("the SEASON ahead", x.may(3, 1), 60);
        due("refused", x.hire(0, 1, 2), S);
        due("refused", x.hire(1, 1, 2), S);
        due("himself again", x.hire(0, 0, 2), 2);
        due("another SEASON", x.hire(2, 1, 2), NONE);
        due("each SEASON by itself", x.may(2, 0), 56);
        due("in place of whom it had", x.hire(0, 0, 3), 2);
        due("he is free again", x.may(1, 0), 52);
        due("he is free again", x.hire(1, 0, 2), NONE);
        due("three places", x.many(2), 3);
        due("a side's own CHAMPION can be lent elsewhere", x.quarrel(4, 5, 9, 3), 4);
        due("HOUSE 0", x.hire(4, 0, 0), NONE);
        due("HOUSE 1", x.hire(4, 1, 1), NONE);
        due("and is lent then", x.may(4, 0), 1);
    }

    private static void kinToldLater() {
        LentChampions x = landOf("c5;o8;s4;s6");
        x.quarrel(0, 1, 50, 0);
        x.hire(0, 0, 2);
        x.hire(0, 1, 3);
        due("KIN to the other side by now", x.kin(1, 2, true), 1);
        due("the HIRE is left", x.ofQuarrel(0, 4), 2);
        due("many", x.many(2), 2);
        share("he fights", x.odds(0, 0, 0), x.odds(0, 0, 1), 1, 2);
        due("he MAY not be HIRED any more", x.may(0, 0), 0);
        due("nor again", x.hire(0, 0, 2), S);
        due("left still", x.ofQuarrel(0, 4), 2);
        due("he is lent still", x.may(0, 1), 8);
        due("he goes", x.hire(0, 0, NONE), 2);
        due("for good", x.hire(0, 0, 2), S);
        due("many", x.many(2), 1);
    }

    private static void hireRefusedLeaves() {
        LentChampions x = landOf("c5;o8;s4;s6");
        x.quarrel(0, 1, 50, 0);
        x.hire(0, 0, 2);
        due("STATE", x.hire(0, 0, 1), S);
        due("STATE", x.hire(0, 1, 2), S);
        due("HOUSE 4", x.hire(0, 0, 4), U);
        due("HOUSE -1", x.hire(0, 0, -1), U);
        due("HOUSE -8", x.hire(0, 0, -8), U);
        due("HOUSE -10", x.hire(0, 0, -10), U);
        due("QUARREL 1", x.hire(1, 0, 3), U);
        due("QUARREL -1", x.hire(-1, 0, NONE), U);
        due("side 2", x.hire(0, 2, NONE), O);
        due("side -1", x.hire(0, -1, NONE), O);
        due("whom side 0 had", x.ofQuarrel(0, 4), 2);
        due("whom side 1 had", x.ofQuarrel(0, 5), NONE);
        due("one place", x.many(2), 1);
    }

    private static void winsWithOneOrNone() {
        LentChampions x = landOf("c5;o8;c1;c9");
        x.quarrel(0, 1, 99, 7);
        share("none", x.odds(0, 0, 0), x.odds(0, 0, 1), 1, 2);
        share("none", x.odds(0, 1, 0), x.odds(0, 1, 1), 1, 2);
        share("none: nobody takes a tenth", x.worth(0, 0, 0), x.worth(0, 0, 1), 0, 1);
        share("none: nobody takes a tenth", x.worth(0, 1, 0), x.worth(0, 1, 1), 0, 1);
        x.hire(0, 1, 2);
        share("the weakest one alone", x.odds(0, 1, 0), x.odds(0, 1, 1), 1, 1);
        share("against nobody", x.odds(0, 0, 0), x.odds(0, 0, 1), 0, 1);
        share("less a tenth", x.worth(0, 1, 0), x.worth(0, 1, 1), 891, 10);
        share("all is paid", x.worth(0, 0, 0), x.worth(0, 0, 1), -99, 1);
        x.hire(0, 0, 3);
        share("both", x.odds(0, 0, 0), x.odds(0, 0, 1), 9, 10);
        share("both", x.odds(0, 1, 0), x.odds(0, 1, 1), 1, 10);
        // 9/10 of 89.1 less 1/10 of 99, and 1/10 of 89.1 less 9/10 of 99.
        share("both", x.worth(0, 0, 0), x.worth(0, 0, 1), 7029, 100);
        share("both", x.worth(0, 1, 0), x.worth(0, 1, 1), -8019, 100);
    }

    private static void leastAndGreatestStake() {
        LentChampions x = landOf("c5;o8;c8;c9");
        x.quarrel(0, 1, 1, 0);
        x.quarrel(0, 1, 99, 1);
        for (int q = 0; q < 2; q++) {
            x.hire(q, 0, 2);
            x.hire(q, 1, 3);
        }
        // 8/17 of 9/10 less 9/17, and 9/17 of 9/10 less 8/17.
        share("STAKE 1", x.worth(0, 0, 0), x.worth(0, 0, 1), -9, 85);
        share("STAKE 1", x.worth(0, 1, 0), x.worth(0, 1, 1), 1, 170);
        share("STAKE 99", x.worth(1, 0, 0), x.worth(1, 0, 1), -891, 85);
        share("STAKE 99", x.worth(1, 1, 0), x.worth(1, 1, 1), 99, 170);
        share("together", x.worthTo(0, 0), x.worthTo(0, 1), -180, 17);
        share("together", x.worthTo(1, 0), x.worthTo(1, 1), 10, 17);
    }

    private static void worthOfAllTogether() {
        LentChampions x = landOf("c1;c2;c3;c4;c5;c7");
        share("no QUARREL", x.worthTo(5, 0), x.worthTo(5, 1), 0, 1);
        for (int q = 0; q < 8; q++) {
            x.quarrel(q % 2 == 0 ? 0 : 1, q % 2 == 0 ? 1 : 0, 99, q);
            x.hire(q, q % 2, 2);
        }
        share("eight won alone", x.worthTo(0, 0), x.worthTo(0, 1), 3564, 5);
        share("eight lost", x.worthTo(1, 0), x.worthTo(1, 1), -792, 1);
        share("who is lent has none of it", x.worthTo(2, 0), x.worthTo(2, 1), 0, 1);
        due("HOUSE 6", x.worthTo(6, 0), LOST);
        due("which 2", x.worthTo(0, 2), LOST);
        due("which -1", x.worthTo(0, -1), LOST);
    }

    private static LentChampions lastOfEight() {
        LentChampions x = landOf("c5;o9;o8;c1;s3;s2");
        for (int q = 0; q < 7; q++) {
            x.quarrel(3, 4, 2, q);
        }
        due("the last", x.quarrel(4, 3, 60, 7), 7);
        due("hire", x.hire(7, 0, 1), NONE);
        due("hire", x.hire(7, 1, 2), NONE);
        return x;
    }

    private static void lastQuarrelsLastSeason() {
        LentChampions x = lastOfEight();
        due("side 0 has HIRED", x.ofQuarrel(7, 4), 1);
        due("side 1 has HIRED", x.ofQuarrel(7, 5), 2);
        due("the one ahead of it has not", x.ofQuarrel(6, 4), NONE);
        due("may", x.may(7, 0), 35);
        due("may", x.may(7, 1), 37);
        share("2 with 1 in SEASON 7", x.odds(7, 0, 0), x.odds(7, 0, 1), 2, 3);
        share("1 with 2 in SEASON 7", x.odds(7, 1, 0), x.odds(7, 1, 1), 1, 3);
        // 2/3 of 54 less 1/3 of 60, and 1/3 of 54 less 2/3 of 60.
        share("side 0", x.worth(7, 0, 0), x.worth(7, 0, 1), 16, 1);
        share("side 1", x.worth(7, 1, 0), x.worth(7, 1, 1), -22, 1);
        due("sums", x.peace(7, 0), 7);
        due("least", x.peace(7, 1), 16);
        due("greatest", x.peace(7, 2), 22);
        due("best in SEASON 7", x.best(4, 7, 7), 0);
        due("best in SEASON 7", x.best(3, 7, 7), 0);
        // 5/6 of 54 less 1/6 of 60; 5/7 of 54 less 2/7 of 60.
        share("best in SEASON 7", x.bestWorth(4, 7, 0), x.bestWorth(4, 7, 1), 35, 1);
        share("best in SEASON 7", x.bestWorth(3, 7, 0), x.bestWorth(3, 7, 1), 150, 7);
        due("all sides would change", x.changes(), 65535);
        share("3 and 1: 1 falls away", x.married(3, 1, 0), x.married(3, 1, 1), 76, 1);
        share("4 and 2: 2 falls away", x.married(4, 2, 0), x.married(4, 2, 1), 38, 1);
        due("the most", x.most(7, -1), 2);
        due("the most", x.most(7, 0), 0);
        due("the most", x.most(7, 1), 1);
        due("a book of it", book(x, 7, 1, 2, 7, 0, 1, 6, 0, 1, 8, 0, 0), 3);
    }

    private static void houseZeroIsLent() {
        LentChampions x = landOf("c9;o8;c4");
        x.quarrel(1, 2, 50, 0);
        due("may", x.may(0, 0), 1);
        due("best", x.best(1, 0, 0), 0);
        share("best", x.bestWorth(1, 0, 0), x.bestWorth(1, 0, 1), 45, 1);
        due("changes", x.changes(), 3);
        due("most", x.most(0, 0), 0);
        due("hire", x.hire(0, 1, 0), NONE);
        due("whom it had", x.hire(0, 1, NONE), 0);
        due("a book", book(x, 0, 0, 0), NONE);
    }

    // ---- 3 the best, peace

    private static void bestInPlaceOfWhomItHas() {
        LentChampions x = landOf("c5;o8;c4;c6");
        x.quarrel(0, 1, 50, 0);
        x.quarrel(1, 0, 50, 0);
        x.hire(0, 0, 3);
        x.hire(1, 1, 2);
        due("all are free for it: the first row", x.best(0, 0, 0), 2);
        due("all are free for it: the first row", x.best(0, 0, 1), 3);
        share("45 and 45", x.bestWorth(0, 0, 0), x.bestWorth(0, 0, 1), 90, 1);
        due("others as they are", x.best(1, 0, 0), NONE);
        due("others as they are", x.best(1, 0, 1), NONE);
        share("lost", x.bestWorth(1, 0, 0), x.bestWorth(1, 0, 1), -100, 1);
        due("nothing is HIRED by this", x.ofQuarrel(0, 4), 3);
        due("nothing is HIRED by this", x.ofQuarrel(1, 5), 2);
    }

    private static void bestOfLaterPlaces() {
        LentChampions x = landOf("c5;o8;c4;c6");
        for (int q = 0; q < 6; q++) {
            x.quarrel(0, 1, 20, q);
        }
        x.quarrel(0, 1, 20, 7);
        x.quarrel(1, 0, 50, 7);
        x.hire(6, 0, 3);
        x.hire(7, 1, 2);
        x.hire(7, 0, NONE);
        due("both are free for it", x.best(0, 7, 6), 2);
        due("both are free for it", x.best(0, 7, 7), 3);
        x.hire(7, 1, NONE);
        x.hire(7, 0, 2);
        // Against c4 about 50 the c6, who stands in QUARREL 6 now.
        due("whom it has elsewhere", x.best(0, 7, 7), 3);
        due("nobody is left", x.best(0, 7, 6), NONE);
        // 6/10 of 45 less 4/10 of 50.
        share("by that", x.bestWorth(0, 7, 0), x.bestWorth(0, 7, 1), 7, 1);
    }

    private static void bestOfSeveral() {
        LentChampions x = landOf("c5;o8;c4;c4;c4;c4");
        x.quarrel(0, 1, 50, 0);
        due("of like ones the first", x.best(0, 0, 0), 2);
        x.hire(0, 1, 2);
        due("of like ones who are free the first", x.best(0, 0, 0), 3);
        x.quarrel(0, 1, 50, 0);
        due("row by QUARRELS", x.best(0, 0, 0), 3);
        due("row by QUARRELS", x.best(0, 0, 1), 4);
        LentChampions y = landOf("c5;o8;c4");
        y.quarrel(0, 1, 50, 0);
        y.quarrel(0, 1, 50, 0);
        due("a HOUSE ahead of nobody, who counts as 9", y.best(0, 0, 0), 2);
        due("nobody", y.best(0, 0, 1), NONE);
        y.quarrel(0, 1, 51, 0);
        due("one more to win: nobody", y.best(0, 0, 0), NONE);
        due("one more to win: nobody", y.best(0, 0, 1), NONE);
        due("one more to win: there", y.best(0, 0, 2), 2);
        share("by that", y.bestWorth(0, 0, 0), y.bestWorth(0, 0, 1), 459, 10);
    }

    private static void bestOfThatSeasonAlone() {
        LentChampions x = landOf("c5;o8;c4;c9");
        x.quarrel(0, 1, 50, 0);
        x.quarrel(0, 1, 60, 7);
        x.hire(0, 1, 3);
        x.hire(1, 1, 3);
        x.hire(1, 0, 2);
        due("SEASON 0", x.best(0, 0, 0), 2);
        due("SEASON 7", x.best(0, 7, 1), 2);
        // 4/13 of 45 less 9/13 of 50.
        share("SEASON 0", x.bestWorth(0, 0, 0), x.bestWorth(0, 0, 1), -270, 13);
        share("SEASON 7", x.bestWorth(0, 7, 0), x.bestWorth(0, 7, 1), -324, 13);
        share("none in SEASON 3", x.bestWorth(0, 3, 0), x.bestWorth(0, 3, 1), 0, 1);
        share("a HOUSE without a place", x.bestWorth(2, 0, 0), x.bestWorth(2, 0, 1), 0, 1);
        due("of another SEASON", x.best(0, 7, 0), S);
        due("of another SEASON", x.best(0, 0, 1), S);
        due("no place in it", x.best(2, 0, 0), S);
        due("SEASON 8", x.best(0, 8, 0), O);
        due("SEASON -1", x.best(0, -1, 0), O);
        due("QUARREL 2", x.best(0, 0, 2), U);
        due("HOUSE 4", x.best(4, 0, 0), U);
        due("SEASON 8", x.bestWorth(0, 8, 0), LOST);
        due("which 2", x.bestWorth(0, 0, 2), LOST);
        due("HOUSE 4", x.bestWorth(4, 0, 0), LOST);
    }

    private static void bestOfEightPlaces() {
        LentChampions x = landOf("c5;o8;c1;c2;c3;c9");
        for (int q = 0; q < 8; q++) {
            x.quarrel(q % 2, 1 - q % 2, 10 + q, 3);
        }
        int[] want = {NONE, NONE, NONE, NONE, 2, 3, 4, 5};
        for (int q = 0; q < 8; q++) {
            due("the four greatest STAKES: QUARREL " + q, x.best(0, 3, q), want[q]);
        }
        share("9/10 of 14, 15, 16, 17", x.bestWorth(0, 3, 0), x.bestWorth(0, 3, 1), 279, 5);
        x.hire(0, 1, 5);
        // 9/10 of 14 .. 17 gained, or 1/4 and less of 10 saved beside -10: three are left for four.
        int[] then = {NONE, NONE, NONE, NONE, NONE, 2, 3, 4};
        for (int q = 0; q < 8; q++) {
            due("one is lent to the other: QUARREL " + q, x.best(0, 3, q), then[q]);
        }
        share("9/10 of 15, 16, 17 less 10", x.bestWorth(0, 3, 0), x.bestWorth(0, 3, 1), 166, 5);
    }

    private static void peaceOfSums() {
        LentChampions x = landOf("c5;o8;c1;c1");
        x.quarrel(0, 1, 99, 0);
        due("WORTH 0 and 0: one sum", x.peace(0, 0), 1);
        due("least", x.peace(0, 1), 0);
        due("greatest", x.peace(0, 2), 0);
        x.hire(0, 0, 2);
        // 89.1 for side 0, -99 for side 1.
        due("side 1 pays", x.peace(0, 0), 10);
        due("least", x.peace(0, 1), 90);
        due("greatest", x.peace(0, 2), 99);
        x.hire(0, 0, NONE);
        x.hire(0, 1, 2);
        due("side 0 pays", x.peace(0, 0), 10);
        due("least", x.peace(0, 1), -99);
        due("greatest", x.peace(0, 2), -90);
        x.hire(0, 0, 3);
        // -4.95 for each.
        due("about 0", x.peace(0, 0), 9);
        due("least", x.peace(0, 1), -4);
        due("greatest", x.peace(0, 2), 4);
        due("what 3", x.peace(0, 3), LOST);
        due("what -1", x.peace(0, -1), LOST);
        due("QUARREL 1", x.peace(1, 0), LOST);
        due("QUARREL -1", x.peace(-1, 0), LOST);
    }

    private static void peaceAtTheEdge() {
        LentChampions x = landOf("c5;o8;c1;c1");
        x.quarrel(0, 1, 20, 0);
        x.hire(0, 0, 2);
        // 18 for side 0, -20 for side 1: WORTH itself is no less.
        due("sums", x.peace(0, 0), 3);
        due("least", x.peace(0, 1), 18);
        due("greatest", x.peace(0, 2), 20);
        x.hire(0, 1, 3);
        // -1 for each.
        due("sums", x.peace(0, 0), 3);
        due("least", x.peace(0, 1), -1);
        due("greatest", x.peace(0, 2), 1);
    }

    private static void noPeace() {
        LentChampions x = landOf("c5;o8;c2;c9");
        x.quarrel(0, 1, 2, 0);
        x.hire(0, 0, 2);
        x.hire(0, 1, 3);
        // 2/11 of 1.8 less 9/11 of 2, which is -14.4/11; 9/11 of 1.8 less 2/11 of 2, which is 12.2/11: none between.
        due("no sum", x.peace(0, 0), 0);
        due("no least", x.peace(0, 1), LOST);
        due("no greatest", x.peace(0, 2), LOST);
    }

    private static void mostAsIfNobody() {
        LentChampions x = landOf("c5;o8;s4;s6");
        x.quarrel(0, 1, 50, 0);
        x.hire(0, 0, 3);
        x.kin(1, 3, true);
        due("one for each side", x.most(0, -1), 2);
        due("not whom it has", x.most(0, 0), 2);
        due("the other one", x.most(0, 1), 3);
        due("the HIRE stays", x.ofQuarrel(0, 4), 3);
        due("many", x.many(2), 1);
    }

    private static void mostFirstRow() {
        LentChampions x = landOf("c5;o8;s4;s6;c9;o2");
        x.quarrel(0, 1, 50, 0);
        due("two", x.most(0, -1), 2);
        due("the first of several", x.most(0, 0), 2);
        due("the first of several", x.most(0, 1), 3);
        x.kin(0, 3, true);
        x.kin(0, 4, true);
        x.kin(0, 5, true);
        due("side 1 has HOUSE 2 alone", x.most(0, 1), 2);
        due("so side 0 has not", x.most(0, 0), 3);
        due("two", x.most(0, -1), 2);
        x.kin(0, 2, true);
        due("side 1 has none", x.most(0, 1), NONE);
        due("so side 0 has HOUSE 2", x.most(0, 0), 2);
        due("one", x.most(0, -1), 1);
    }

    private static void mostOfPlaces() {
        LentChampions x = landOf("c5;o8;s4;s6;c9;o2");
        due("no QUARREL", x.most(0, -1), 0);
        due("no place", x.most(0, 0), NONE);
        for (int q = 0; q < 8; q++) {
            x.quarrel(q % 6, (q + 1) % 6, 50, 7);
        }
        due("six CHAMPIONS", x.most(7, -1), 6);
        int[] want = {2, 3, 0, 4, 1, 5};
        for (int k = 0; k < 16; k++) {
            due("place " + k, x.most(7, k), k < 6 ? want[k] : NONE);
        }
        due("there are fewer", x.most(7, 16), NONE);
        due("there are fewer", x.most(7, MAX), NONE);
        due("another SEASON", x.most(6, -1), 0);
        due("k -2", x.most(7, -2), U);
        due("k MIN", x.most(7, MIN), U);
        due("SEASON 8", x.most(8, 0), O);
        due("SEASON -1", x.most(-1, 0), O);
        due("SEASON ahead of k", x.most(8, -2), O);
    }

    private static void mostOfThatSeasonsPlaces() {
        LentChampions x = landOf("c5;o8;s4");
        x.quarrel(0, 1, 50, 0);
        x.quarrel(1, 2, 50, 5);
        x.quarrel(0, 2, 50, 0);
        due("places of SEASON 0 alone: QUARREL 0", x.most(0, 0), 2);
        due("side 1", x.most(0, 1), NONE);
        due("then QUARREL 2", x.most(0, 2), 1);
        due("side 1", x.most(0, 3), NONE);
        due("there are fewer", x.most(0, 4), NONE);
        due("SEASON 5", x.most(5, 0), 0);
        due("SEASON 5", x.most(5, -1), 1);
    }

    // ---- 4 books, changes

    private static void bookFromNobody() {
        LentChampions x = landOf("c5;o8;s4;s6");
        x.quarrel(0, 1, 50, 0);
        x.hire(0, 0, 2);
        due("no HIRE at all", book(x), NONE);
        due("the place is not taken yet", book(x, 0, 0, 3), NONE);
        due("nor is he lent yet", book(x, 0, 1, 2), NONE);
        due("taken already", book(x, 0, 0, 3, 0, 0, 2), 1);
        due("taken by himself already", book(x, 0, 0, 3, 0, 0, 3), 1);
        due("lent already", book(x, 0, 0, 3, 0, 1, 3), 1);
        due("a book changes nothing", x.ofQuarrel(0, 4), 2);
        due("a book changes nothing", x.ofQuarrel(0, 5), NONE);
        due("many", x.many(2), 1);
    }

    private static void bookWithoutSuch() {
        LentChampions x = landOf("c5;o8;s4;s6");
        due("no QUARREL at all", book(x, 0, 0, 2), 0);
        x.quarrel(0, 1, 50, 0);
        int[] no = {1, -1, 256, MIN, MAX};
        for (int q : no) {
            due("QUARREL " + q, book(x, 0, 0, 2, q, 0, 2), 1);
        }
        int[] sides = {2, -1, 256, MIN, MAX};
        for (int side : sides) {
            due("side " + side, book(x, 0, side, 2), 0);
        }
        int[] houses = {4, -1, NONE, 34, MIN, MAX};
        for (int h : houses) {
            due("HOUSE " + h, book(x, 0, 0, h), 0);
        }
        due("fault", x.fault(), 0);
    }

    private static void bookOfThirteen() {
        LentChampions x = landOf("c5;o8;s4;s6");
        for (int season = 0; season < 7; season++) {
            x.quarrel(0, 1, 1, season);
        }
        x.sheet(0, 0, 40);
        for (int k = 0; k < 13; k++) {
            x.put(0, 1 + 3 * k, k / 2);
            x.put(0, 2 + 3 * k, k % 2);
            x.put(0, 3 + 3 * k, 2 + k % 2);
        }
        due("13 HIRES in the last 39 cells", x.book(0, 0, 1, 13), NONE);
        due("from 2 on they are not there", x.book(0, 0, 2, 13), INDEX);
        due("14 are not there", x.book(0, 0, 0, 14), INDEX);
        due("fault", x.fault(), 3);
        due("nor as many as wrap around", x.book(0, 0, 0, 1431655766), INDEX);
        due("nor as many as wrap around", x.book(0, 0, 0, 715827883), INDEX);
        due("nor MAX", x.book(0, 0, 0, MAX), INDEX);
        x.put(0, 39, 1);
        due("the thirteenth", x.book(0, 0, 1, 13), 12);
        due("twelve of them", x.book(0, 0, 1, 12), NONE);
        due("fault", x.fault(), 0);
    }

    private static void bookOfShortRows() {
        LentChampions x = landOf("c5;o8;s4;s6");
        x.quarrel(0, 1, 50, 0);
        numbers(x, 0, 1, 0, 0);
        due("two cells", x.book(0, 1, 0, 1), INDEX);
        numbers(x, 0, 1, 0, 0, 2, 0, 1);
        due("one HIRE of five cells", x.book(0, 1, 0, 1), NONE);
        due("two of five cells", x.book(0, 1, 0, 2), INDEX);
        due("one from 2 on", x.book(0, 1, 2, 1), 0);
        due("one from 3 on", x.book(0, 1, 3, 1), INDEX);
        due("one from -1 on", x.book(0, 1, -1, 1), INDEX);
        due("below 0", x.book(0, 1, 0, -1), SIZE);
        due("below 0", x.book(0, 1, 0, MIN), SIZE);
        due("fault", x.fault(), 4);
        due("another SORT", x.book(0, 2, 0, 1), CAST);
        due("nothing", x.book(2, 2, 0, 1), NULL);
        due("SORT 3", x.book(0, 3, 0, 1), O);
        due("SHEET 4", x.book(4, 1, 0, 1), U);
        due("fault", x.fault(), 0);
    }

    private static void changesForMore() {
        LentChampions x = landOf("c5;o8;c4;c4;c3;c9");
        due("no QUARREL", x.changes(), 0);
        x.quarrel(0, 1, 50, 0);
        due("somebody for nobody, both sides", x.changes(), 3);
        x.hire(0, 0, 4);
        due("who wins alone has no more by a stronger one", x.changes(), 2);
        x.hire(0, 1, 5);
        due("one is against the strongest", x.changes(), 1);
        x.hire(0, 0, 2);
        due("a like one is not more", x.changes(), 0);
        x.kin(1, 2, true);
        due("KIN told later leaves him", x.changes(), 0);
        x.hire(0, 1, NONE);
        due("somebody for nobody", x.changes(), 2);
    }

    private static void changesOfLastPlace() {
        LentChampions x = landOf("c5;o8;c4");
        for (int q = 0; q < 8; q++) {
            x.quarrel(0, 1, 1, q);
        }
        due("all sixteen sides", x.changes(), 65535);
        x.hire(7, 1, 2);
        due("the last has whom there is, its other side none to take", x.changes(), 16383);
    }

    private static void likeliestLimits() {
        LentChampions x = new LentChampions();
        for (int n = 1; n <= 8; n++) {
            due("never of " + n, x.likeliest(0, n), 19);
            due("always of " + n, x.likeliest(n, n), 91);
            due("more than " + n, x.likeliest(n + 1, n), O);
            due("fewer than never of " + n, x.likeliest(-1, n), O);
        }
        due("n 0", x.likeliest(0, 0), O);
        due("n 9", x.likeliest(0, 9), O);
        due("n 9", x.likeliest(4, 9), O);
        due("n -1", x.likeliest(0, -1), O);
        due("n MIN", x.likeliest(0, MIN), O);
        due("n MAX", x.likeliest(0, MAX), O);
        due("w MIN", x.likeliest(MIN, 8), O);
        due("w MAX", x.likeliest(MAX, 8), O);
    }

    private static void likeliestOfSeveral() {
        LentChampions x = new LentChampions();
        due("1 of 2: of 1 and 1 .. 9 and 9 the least", x.likeliest(1, 2), 11);
        due("2 of 6: of 1 and 2, 2 and 4, .. the least", x.likeliest(2, 6), 12);
        due("6 of 8: of 3 and 1, 6 and 2, .. the least", x.likeliest(6, 8), 31);
        due("1 of 8", x.likeliest(1, 8), 17);
        due("7 of 8", x.likeliest(7, 8), 71);
        due("3 of 8", x.likeliest(3, 8), 35);
        due("5 of 7", x.likeliest(5, 7), 52);
    }

    // ---- 5 marriages

    private static void marriedFallsAway() {
        LentChampions x = landOf("c5;o8;c4;c9");
        x.quarrel(0, 1, 50, 0);
        x.hire(0, 0, 2);
        x.hire(0, 1, 3);
        // Now 4/13 of 45 less 9/13 of 50, which is -270/13; for the other 9/13 of 45 less 4/13 of 50, which is 205/13.
        share("0 and 3: the other side's goes", x.married(0, 3, 0), x.married(0, 3, 1), 855, 13);
        share("1 and 2: the other side's goes", x.married(1, 2, 0), x.married(1, 2, 1), 380, 13);
        share("3 and 0: to 3 it is nothing", x.married(3, 0, 0), x.married(3, 0, 1), 0, 1);
        share("0 and 2: nothing", x.married(0, 2, 0), x.married(0, 2, 1), 0, 1);
        share("0 and 1: nothing", x.married(0, 1, 0), x.married(0, 1, 1), 0, 1);
        due("all is as it was", x.many(2), 2);
        due("all is as it was", x.ofHouse(0, 2), 1);
        due("all is as it was", x.ofHouse(3, 2), 8);
        due("they are one", x.married(0, 0, 0), LOST);
        due("HOUSE 4", x.married(0, 4, 0), LOST);
        due("HOUSE -1", x.married(-1, 0, 0), LOST);
        due("which 2", x.married(0, 1, 2), LOST);
        due("which -1", x.married(0, 1, -1), LOST);
    }

    private static void marriedOfAllSides() {
        LentChampions x = landOf("c5;o8;c4;c9");
        x.quarrel(0, 1, 50, 0);
        x.quarrel(1, 0, 40, 1);
        x.hire(0, 1, 2);
        x.hire(1, 0, 2);
        share("both of 1's go", x.married(0, 2, 0), x.married(0, 2, 1), 90, 1);
        x.hire(0, 0, 3);
        // 9/13 of 45 less 4/13 of 50 (205/13) and -40 now; 45 and 0 then.
        share("his own stays", x.married(0, 2, 0), x.married(0, 2, 1), 900, 13);
        x.quarrel(3, 2, 30, 2);
        x.hire(2, 0, 0);
        share("0 and 2: 3's place loses 0, which is nothing to 0", x.married(0, 2, 0), x.married(0, 2, 1), 900, 13);
        share("2 and 0: then nobody is there", x.married(2, 0, 0), x.married(2, 0, 1), 30, 1);
    }

    private static void marriedOfLeftHires() {
        LentChampions x = landOf("c5;o8;c4;c9");
        x.quarrel(0, 1, 50, 0);
        x.hire(0, 1, 2);
        x.kin(0, 2, true);
        share("KIN already: the left one falls away", x.married(0, 2, 0), x.married(0, 2, 1), 50, 1);
        share("he MAY not be then, either", x.married(0, 3, 0), x.married(0, 3, 1), 50, 1);
        due("he is left", x.ofQuarrel(0, 5), 2);
        x.kin(0, 2, false);
        share("no KIN any more", x.married(0, 3, 0), x.married(0, 3, 1), 0, 1);
    }

    private static void earlyToSeven() {
        LentChampions x = landOf("o9;c2;o1;c9");
        due("o9 and c2: all eight", x.early(0, 1, 0), 8);
        due("the last alone", x.early(0, 1, 7), 1);
        due("c2 and o9: the last alone", x.early(1, 0, 0), 1);
        due("from 7 on", x.early(1, 0, 7), 1);
        due("o9 and c9: the first alone", x.early(0, 3, 0), 1);
        due("none from 1 on", x.early(0, 3, 1), 0);
        due("never", x.early(2, 3, 0), 0);
        for (int season = 0; season < 8; season++) {
            due("no less than himself", x.early(2, 2, season), 8 - season);
        }
        due("SEASON 8", x.early(0, 1, 8), O);
        due("SEASON -1", x.early(0, 1, -1), O);
        due("HOUSE 4", x.early(4, 0, 0), U);
        due("HOUSE -1", x.early(0, -1, 0), U);
    }

    // ---- 6 sheets, parts

    private static void sheetsAtFirst() {
        LentChampions x = new LentChampions();
        for (int k = 0; k < 4; k++) {
            due("put", x.put(k, 0, 0), NULL);
            due("cell", x.cell(k, 0, 0), LOST);
            due("fault", x.fault(), 1);
            due("land", x.land(k, 0, 0, 0), NULL);
            due("book", x.book(k, 2, 0, 0), NULL);
            due("copy", x.copy(k, 0, k, 0, 0), NULL);
            due("lose", x.lose(k), 0);
        }
        due("SHEET 4", x.sheet(4, 0, 0), U);
        due("SHEET -1", x.sheet(-1, 0, 0), U);
        due("SHEET 4", x.lose(4), U);
        due("SHEET -1", x.lose(-1), U);
        due("SHEET 4", x.put(4, 0, 0), U);
        due("SHEET 4", x.cell(4, 0, 0), LOST);
        due("SHEET -1", x.cell(-1, 0, 0), LOST);
        due("SORT 3", x.cell(0, 0, 3), LOST);
        due("SHEET 4", x.copy(4, 0, 0, 0, 0), U);
        due("SHEET 4", x.copy(0, 0, 4, 0, 0), U);
    }

    private static void rowsOfNoneToForty() {
        LentChampions x = new LentChampions();
        for (int sort = 0; sort < 3; sort++) {
            due("none", x.sheet(0, sort, 0), 1);
            row(x, 0, sort);
            due("it is a row", x.put(0, 0, 1), INDEX);
            due("one", x.sheet(0, sort, 1), 1);
            row(x, 0, sort, 0);
            due("forty", x.sheet(0, sort, 40), 1);
            row(x, 0, sort, new int[40]);
            due("the last cell", x.put(0, 39, 7), 1);
            due("the last cell", x.cell(0, 39, sort), 7);
            due("no cell", x.put(0, 40, 7), INDEX);
            due("no cell", x.put(0, -1, 7), INDEX);
            due("no cell", x.put(0, MIN, 7), INDEX);
            due("no cell", x.put(0, MAX, 7), INDEX);
            due("no cell", x.cell(0, -1, sort), LOST);
        }
        due("41", x.sheet(0, 0, 41), O);
        due("MAX", x.sheet(0, 0, MAX), O);
        due("SORT 3", x.sheet(0, 3, 1), O);
        due("SORT -1", x.sheet(0, -1, 1), O);
        due("SORT 3 of -1", x.sheet(0, 3, -1), O);
        due("-1", x.sheet(0, 0, -1), SIZE);
        due("MIN", x.sheet(0, 0, MIN), SIZE);
        due("fault", x.fault(), 4);
        due("the row is as it was", x.cell(0, 39, 2), 7);
        due("anew", x.sheet(0, 2, 40), 1);
        due("0 at first, also where a row was", x.cell(0, 39, 2), 0);
    }

    private static void sheetOverNothing() {
        LentChampions x = new LentChampions();
        due("SIZE leaves nothing", x.sheet(0, 0, -1), SIZE);
        due("put", x.put(0, 0, 0), NULL);
        due("OUTSIDE leaves nothing", x.sheet(0, 0, 41), O);
        due("put", x.put(0, 0, 0), NULL);
        due("a row of none is no nothing", x.sheet(0, 0, 0), 1);
        due("put", x.put(0, 0, 0), INDEX);
        due("lose", x.lose(0), 1);
        due("put", x.put(0, 0, 0), NULL);
        due("lose", x.lose(0), 0);
        due("the others are their own", x.sheet(1, 0, 2), 1);
        due("put", x.put(0, 0, 0), NULL);
        due("put", x.put(2, 0, 0), NULL);
    }

    private static void lostRowIsGone() {
        LentChampions x = new LentChampions();
        numbers(x, 0, 2, 1, 2, 3);
        due("lose", x.lose(0), 1);
        due("cell", x.cell(0, 0, 2), LOST);
        due("fault", x.fault(), 1);
        x.sheet(0, 2, 3);
        row(x, 0, 2, 0, 0, 0);
    }

    private static void cutToSort() {
        LentChampions x = new LentChampions();
        int[] values = {0, 1, -1, 127, 128, 129, -128, -129, 255, 256, 257, -255, -256, 32767, 32768, -32768, -32769, 65535,
            65536, 65537, -65535, 8388608, MAX, MIN, MAX - 1, MIN + 1};
        for (int sort = 0; sort < 3; sort++) {
            x.sheet(sort, sort, 1);
            for (int v : values) {
                due("put", x.put(sort, 0, v), 1);
                long want = sort == 0 ? (byte) v : sort == 1 ? (short) v : v;
                due("SORT " + sort + " of " + v, x.cell(sort, 0, sort), want);
            }
        }
    }

    private static void takenAsAnotherSort() {
        LentChampions x = new LentChampions();
        for (int sort = 0; sort < 3; sort++) {
            x.sheet(sort, sort, 2);
            for (int as = 0; as < 3; as++) {
                due("cell as " + as, x.cell(sort, 1, as), as == sort ? 0 : LOST);
                due("fault", x.fault(), as == sort ? 0 : 2);
                due("cell that is not, as " + as, x.cell(sort, 2, as), LOST);
                due("fault", x.fault(), as == sort ? 3 : 2);
                due("land as " + as, x.land(sort, as, 0, 0), as == sort ? -100 : CAST);
                due("book as " + as, x.book(sort, as, 0, 0), as == sort ? NONE : CAST);
                due("nothing is no CAST", x.cell(3, 0, as), LOST);
                due("fault", x.fault(), 1);
                due("nothing is no CAST", x.land(3, as, 0, 0), NULL);
                due("nothing is no CAST", x.book(3, as, 0, 0), NULL);
            }
        }
    }

    private static void copyAsTheyWere() {
        LentChampions x = new LentChampions();
        numbers(x, 0, 0, 1, 2, 3, 4, 5);
        due("one cell on", x.copy(0, 0, 0, 1, 4), 4);
        row(x, 0, 0, 1, 1, 2, 3, 4);
        due("two cells back", x.copy(0, 2, 0, 0, 3), 3);
        row(x, 0, 0, 2, 3, 4, 3, 4);
        due("all upon itself", x.copy(0, 0, 0, 0, 5), 5);
        row(x, 0, 0, 2, 3, 4, 3, 4);
        numbers(x, 1, 0, 9, 9, 9);
        due("to another", x.copy(0, 2, 1, 0, 3), 3);
        row(x, 1, 0, 4, 3, 4);
        row(x, 0, 0, 2, 3, 4, 3, 4);
        due("one, to the last", x.copy(0, 0, 1, 2, 1), 1);
        row(x, 1, 0, 4, 3, 2);
        due("none", x.copy(0, 0, 1, 0, 0), 0);
        row(x, 1, 0, 4, 3, 2);
    }

    private static void copyWholeRow() {
        LentChampions x = new LentChampions();
        x.sheet(0, 1, 40);
        x.sheet(1, 1, 40);
        x.put(0, 0, -5);
        x.put(0, 39, -32768);
        due("forty", x.copy(0, 0, 1, 0, 40), 40);
        due("first", x.cell(1, 0, 1), -5);
        due("last", x.cell(1, 39, 1), -32768);
        due("41", x.copy(0, 0, 1, 0, 41), INDEX);
        due("from 1 on", x.copy(0, 1, 1, 0, 40), INDEX);
        due("to 1 on", x.copy(0, 0, 1, 1, 40), INDEX);
        due("39 from 1 on", x.copy(0, 1, 1, 1, 39), 39);
    }

    private static void copyFaults() {
        LentChampions x = new LentChampions();
        numbers(x, 0, 1, 1, 2, 3);
        numbers(x, 1, 1, 7, 8);
        numbers(x, 2, 2, 5);
        due("the first has nothing", x.copy(3, 0, 0, 0, 0), NULL);
        due("the other has nothing", x.copy(0, 0, 3, 0, 0), NULL);
        due("NULL ahead of INDEX", x.copy(0, 9, 3, 9, -1), NULL);
        due("fault", x.fault(), 1);
        due("unlike SORTS", x.copy(0, 0, 2, 0, 1), CAST);
        due("unlike SORTS, none taken", x.copy(2, 0, 0, 0, 0), CAST);
        due("CAST ahead of INDEX", x.copy(0, 9, 2, 9, -1), CAST);
        due("fault", x.fault(), 2);
        int[][] bad = {{-1, 0, 1}, {0, -1, 1}, {0, 0, -1}, {4, 0, 0}, {0, 3, 0}, {3, 0, 1}, {0, 2, 1}, {1, 0, 3}, {0, 1, 2},
            {0, 0, 3}, {MIN, 0, 1}, {0, MIN, 1}, {0, 0, MIN}, {MAX, 0, 1}, {0, MAX, 1}, {0, 0, MAX}, {1, 1, MAX}, {MAX, MAX, MAX},
            {MIN, MIN, MIN}, {3, 2, MAX}};
        for (int[] b : bad) {
            due("i " + b[0] + ", j " + b[1] + ", n " + b[2], x.copy(0, b[0], 1, b[1], b[2]), INDEX);
            due("fault", x.fault(), 3);
        }
        row(x, 0, 1, 1, 2, 3);
        row(x, 1, 1, 7, 8);
        row(x, 2, 2, 5);
    }

    private static void tellingBodies() {
        LentChampions x = landOf("c9;o9;s9;c1;o1;s1");
        int[] want = {9, 109, 118, 1, 101, 102};
        int[][] bodies = {{1}, {2, 1}, {3, 2, 1, 1}, {1}, {2, 1}, {3, 2, 1, 1}};
        int trace = 0;
        for (int h = 0; h < 6; h++) {
            due("tell", x.tell(h), want[h]);
            for (int body : bodies[h]) {
                trace = 31 * trace + body;
            }
            due("trace", x.trace(), trace);
        }
        int[] called = {0, 1, 70, 3, 4, 70};
        for (int h = 0; h < 6; h++) {
            due("call", x.call(h), called[h]);
            trace = 31 * trace + (called[h] == 70 ? 5 : 4);
            due("trace", x.trace(), trace);
        }
        due("HOUSE 6", x.tell(6), U);
        due("HOUSE -1", x.tell(-1), U);
        due("HOUSE 6", x.call(6), U);
        due("HOUSE -1", x.call(-1), U);
        due("a refused call leaves no number", x.trace(), trace);
    }

    private static void traceWraps() {
        LentChampions x = landOf("c1;s1");
        due("0 at first", x.trace(), 0);
        long exact = 0;
        int turn = 0;
        while (exact <= MAX) {
            due("up to the greatest int", x.trace(), exact);
            x.call(1);
            exact = 31 * exact + 5;
            turn++;
        }
        due("beyond it wraps", x.trace(), (int) exact);
        due("after seven", turn, 7);
        int wrapped = (int) exact;
        for (int more = 0; more < 400; more++) {
            x.call(0);
            wrapped = 31 * wrapped + 4;
        }
        due("many times", x.trace(), wrapped);
    }

    private static void asKinds() {
        LentChampions x = landOf("c1;o1;s1");
        int[][] want = {{1, CAST, CAST}, {1, 1, CAST}, {1, 1, 1}};
        for (int h = 0; h < 3; h++) {
            for (int kind = 0; kind < 3; kind++) {
                due("HOUSE " + h + " as " + kind, x.as(h, kind), want[h][kind]);
                due("fault", x.fault(), want[h][kind] == 1 ? 0 : 2);
            }
            due("kind 3", x.as(h, 3), O);
            due("kind -1", x.as(h, -1), O);
            due("fault", x.fault(), 0);
        }
        due("HOUSE 3", x.as(3, 0), U);
        due("HOUSE 3 of kind 3", x.as(3, 3), U);
        due("HOUSE -1", x.as(-1, 2), U);
        due("no body begins by it", x.trace(), 0);
    }

    private static void faultOfTheLatest() {
        LentChampions x = landOf("c1;o1");
        due("after calls that came to none", x.fault(), 0);
        x.as(0, 1);
        due("CAST", x.fault(), 2);
        due("asked again", x.fault(), 2);
        x.lose(0);
        x.lose(9);
        x.kin(0, 1, true);
        x.quarrel(0, 1, 0, 0);
        x.hire(0, 0, 0);
        x.tell(0);
        x.call(9);
        x.most(9, 0);
        x.likeliest(9, 9);
        x.changes();
        x.peace(0, 0);
        x.beats(0, 0, 0, 0);
        x.many(9);
        x.trace();
        due("calls that name none leave it", x.fault(), 2);
        Test[] refused = {() -> x.land(9, 0, 0, 0), () -> x.land(0, 9, 0, 0), () -> x.book(9, 0, 0, 0), () -> x.book(0, 9, 0, 0),
            () -> x.sheet(9, 0, 0), () -> x.sheet(0, 9, 0), () -> x.sheet(0, 0, 41), () -> x.put(9, 0, 0), () -> x.cell(9, 0, 0),
            () -> x.cell(0, 0, 9), () -> x.copy(9, 0, 0, 0, 0), () -> x.copy(0, 0, 9, 0, 0), () -> x.as(9, 0), () -> x.as(0, 9)};
        for (int k = 0; k < refused.length; k++) {
            x.as(0, 2);
            due("CAST", x.fault(), 2);
            refused[k].run();
            due("refused, the " + k + "th", x.fault(), 0);
        }
        x.sheet(1, 0, 2);
        Test[] good = {() -> x.land(1, 0, 0, 2), () -> settle(x, "c1;o1"), () -> x.book(1, 0, 0, 0), () -> x.sheet(2, 0, 0),
            () -> x.put(1, 0, 0), () -> x.cell(1, 0, 0), () -> x.copy(1, 0, 1, 0, 1), () -> x.as(0, 0)};
        for (int k = 0; k < good.length; k++) {
            x.as(0, 2);
            due("CAST", x.fault(), 2);
            good[k].run();
            due("came to none, the " + k + "th", x.fault(), 0);
        }
    }

    private static void manyOf() {
        LentChampions x = new LentChampions();
        for (int what = 0; what < 3; what++) {
            due("none at first", x.many(what), 0);
        }
        settle(x, "c5;o8;s4;s6;c9;o2");
        for (int q = 0; q < 8; q++) {
            x.quarrel(0, 1, 1, q);
            due("hire", x.hire(q, 0, 2), NONE);
            due("hire", x.hire(q, 1, 3), NONE);
        }
        due("HOUSES", x.many(0), 6);
        due("QUARRELS", x.many(1), 8);
        due("all sixteen places", x.many(2), 16);
        due("in place of another one", x.hire(7, 1, 4), 3);
        due("sixteen still", x.many(2), 16);
        due("nobody", x.hire(0, 0, NONE), 2);
        due("fifteen", x.many(2), 15);
        due("nobody again", x.hire(0, 0, NONE), NONE);
        due("fifteen", x.many(2), 15);
        due("what 3", x.many(3), O);
        due("what -1", x.many(-1), O);
        due("what MIN", x.many(MIN), O);
        due("what MAX", x.many(MAX), O);
    }

    private static void withoutALand() {
        LentChampions x = new LentChampions();
        due("ofHouse", x.ofHouse(0, 0), U);
        due("force", x.force(0, 0), U);
        due("beats", x.beats(0, 1, 0, 0), LOST);
        due("kin", x.kin(0, 1, true), U);
        due("early", x.early(0, 0, 0), U);
        due("quarrel", x.quarrel(0, 1, 1, 0), U);
        due("ofQuarrel", x.ofQuarrel(0, 0), U);
        due("may", x.may(0, 0), U);
        due("hire", x.hire(0, 0, NONE), U);
        due("odds", x.odds(0, 0, 0), LOST);
        due("worth", x.worth(0, 0, 0), LOST);
        due("worthTo", x.worthTo(0, 0), LOST);
        due("best", x.best(0, 0, 0), U);
        due("bestWorth", x.bestWorth(0, 0, 0), LOST);
        due("peace", x.peace(0, 0), LOST);
        due("most", x.most(0, -1), 0);
        due("most", x.most(0, 0), NONE);
        due("changes", x.changes(), 0);
        due("likeliest", x.likeliest(1, 1), 91);
        due("married", x.married(0, 1, 0), LOST);
        due("tell", x.tell(0), U);
        due("call", x.call(0), U);
        due("as", x.as(0, 0), U);
        due("book of none", book(x), NONE);
        due("book of one", book(x, 0, 0, 0), 0);
        due("trace", x.trace(), 0);
    }

    private static void twoObjects() {
        LentChampions x = landOf("c1;s1");
        LentChampions y = new LentChampions();
        x.tell(0);
        x.put(0, 0, 0);
        due("another object has its own LAND", y.many(0), 0);
        due("its own TRACE", y.trace(), 0);
        due("its own fault", y.fault(), 0);
        due("its own SHEETS", y.lose(3), 0);
        due("the first keeps his", x.fault(), 1);
        due("the first keeps his", x.lose(3), 1);
    }

    private static void ofQuarrelAndHouseWhat() {
        LentChampions x = landOf("c5;o8;s4");
        x.quarrel(2, 0, 9, 3);
        int[] bad = {-1, 6, MIN, MAX};
        for (int what : bad) {
            due("ofQuarrel what " + what, x.ofQuarrel(0, what), O);
            due("ofHouse what " + what, x.ofHouse(0, what), O);
        }
        due("ofHouse what 3", x.ofHouse(0, 3), O);
        due("QUARREL 1", x.ofQuarrel(1, 0), U);
        due("QUARREL -1", x.ofQuarrel(-1, 0), U);
        due("HOUSE 3", x.ofHouse(3, 0), U);
        due("HOUSE -1", x.ofHouse(-1, 0), U);
        due("QUARREL 1", x.may(1, 0), U);
        due("side 2", x.may(0, 2), O);
        due("side -1", x.may(0, -1), O);
    }

    private static void partsOfShares() {
        LentChampions x = landOf("c5;o8;s4");
        x.quarrel(2, 0, 9, 3);
        int[] bad = {-1, 2, MIN, MAX};
        for (int b : bad) {
            due("odds which " + b, x.odds(0, 0, b), LOST);
            due("odds side " + b, x.odds(0, b, 0), LOST);
            due("worth which " + b, x.worth(0, 0, b), LOST);
            due("worth side " + b, x.worth(0, b, 0), LOST);
            due("worthTo which " + b, x.worthTo(0, b), LOST);
            due("beats which " + b, x.beats(0, 1, 0, b), LOST);
            due("bestWorth which " + b, x.bestWorth(0, 0, b), LOST);
            due("married which " + b, x.married(0, 1, b), LOST);
        }
        due("QUARREL 1", x.odds(1, 0, 0), LOST);
        due("QUARREL -1", x.odds(-1, 0, 0), LOST);
        due("QUARREL 1", x.worth(1, 0, 0), LOST);
        due("QUARREL -1", x.worth(-1, 0, 0), LOST);
    }

    private static void theTerms() {
        test("FAULTS: 1 NULL, 2 CAST, 3 INDEX, 4 SIZE; -10 less it (LOST, where a long is answered); fault() tells it",
            BoundariesTest::faultNumbers);
        test("INDEX: also where i is not 0 .. how many there are, if none of them is taken, too", BoundariesTest::noneTaken);
        test("Shares: upper and lower number (above 0) in least terms", BoundariesTest::leastTerms);
        test("promise 1: No LAND (no HOUSES)", BoundariesTest::withoutALand);
        test("promise 1: SHEETS have nothing", BoundariesTest::sheetsAtFirst);
        test("promise 1: A new object", BoundariesTest::twoObjects);
    }

    private static void theLand() {
        test("2 to 6 HOUSES; the ; of a seventh HOUSE", BoundariesTest::howManyHouses);
        test("a letter and a digit 1 .. 9", BoundariesTest::digitsAndLetters);
        test("FIRST FAULT: the first code with which no TEXT goes on; how many codes, if it just ends too soon",
            BoundariesTest::firstFaultOfSeveral);
        test("Codes: c 99, o 111, s 115, ; 59, digits 48 .. 57", BoundariesTest::codesOfCells);
        test("promise 2: n cells of a SHEET from i on", BoundariesTest::placeWithinTheText);
        test("promise 2: INDEX: not all cells are there", BoundariesTest::longestRowOfText);
        test("A TEXT that is taken makes all anew: no KIN, no QUARRELS", BoundariesTest::takenMakesAnew);
        test("promise 2: refusals, FAULTS and a FIRST FAULT change nothing", BoundariesTest::notTakenLeaves);
        test("Kinds of CHAMPIONS: 0 CHAMPION (c); 1 OLD (o); 2 SWORN (s)", BoundariesTest::kindsByLetters);
        test("FORCE: STRENGTH less SEASON, 1 at least", BoundariesTest::forceAtLeastOne);
        test("two SWORN ones each other as likely as not", BoundariesTest::swornEachOther);
        test("FORCE by both FORCES together", BoundariesTest::greatestForces);
        test("KIN: two HOUSES are told to be so (or not). A HOUSE is KIN to itself", BoundariesTest::kinIsTold);
        test("EARLY: from one on, to 7; no less than another one's", BoundariesTest::earlyToSeven);
    }

    private static void theQuarrels() {
        test("QUARRELS, 8 ever, numbered as they come", BoundariesTest::eightEver);
        test("STAKE (1 .. 99), in a SEASON (0 .. 7)", BoundariesTest::stakesAndSeasons);
        test("promises 3, 9, 10: UNKNOWN; OUTSIDE", BoundariesTest::ofQuarrelAndHouseWhat);
        test("MAY: it is not that of the side", BoundariesTest::mayOfTwoHouses);
        test("MAY: not KIN to the other side", BoundariesTest::notKinToTheOtherSide);
        test("MAY: its CHAMPION is in no other place in that SEASON", BoundariesTest::noOtherPlaceInThatSeason);
        test("KIN told later than a HIRE leaves it", BoundariesTest::kinToldLater);
        test("promise 11: UNKNOWN: QUARREL, HOUSE; OUTSIDE: side; STATE: it MAY not be", BoundariesTest::hireRefusedLeaves);
        test("with one CHAMPION alone always; with none as likely as the other side", BoundariesTest::winsWithOneOrNone);
        test("a CHAMPION who wins takes a tenth of STAKE from his side", BoundariesTest::leastAndGreatestStake);
        test("WORTH to a HOUSE: of all its QUARRELS together", BoundariesTest::worthOfAllTogether);
        test("promises 9 to 22: QUARREL 7, SEASON 7", BoundariesTest::lastQuarrelsLastSeason);
        test("promises 10 to 20: HOUSE 0 is one like the others", BoundariesTest::houseZeroIsLent);
        test("promises 5, 12, 13, 14, 16, 22: LOST", BoundariesTest::partsOfShares);
    }

    private static void theBest() {
        test("BEST: in place of whom it has HIRED; others as they are; none may be, too", BoundariesTest::bestInPlaceOfWhomItHas);
        test("BEST: in its own places of QUARRELS of that SEASON (in place of whom it has HIRED)", BoundariesTest::bestOfLaterPlaces);
        test("BEST: of several the first as a row by QUARRELS (nobody counts as 9)", BoundariesTest::bestOfSeveral);
        test("promises 15, 16: STATE: it has no place in that QUARREL, that is of another SEASON",
            BoundariesTest::bestOfThatSeasonAlone);
        test("BEST: so that WORTH to it of that SEASON is the greatest (eight places)", BoundariesTest::bestOfEightPlaces);
        test("PEACE: side 1 pays to side 0 (below 0: side 0 to side 1)", BoundariesTest::peaceOfSums);
        test("PEACE: neither has less than WORTH", BoundariesTest::peaceAtTheEdge);
        test("promise 17: LOST: there are none (of 1, 2)", BoundariesTest::noPeace);
        test("MOST: if nobody had been HIRED yet", BoundariesTest::mostAsIfNobody);
        test("MOST: of several the first as a row by places", BoundariesTest::mostFirstRow);
        test("promise 18: NONE: nobody, there are fewer. OUTSIDE: SEASON; UNKNOWN: k below -1", BoundariesTest::mostOfPlaces);
        test("promise 18: the k-th of that SEASON's places", BoundariesTest::mostOfThatSeasonsPlaces);
    }

    private static void theBooks() {
        test("A BOOK: from where nobody is HIRED; also where the place is taken already", BoundariesTest::bookFromNobody);
        test("A BOOK: or there is no such QUARREL, side, HOUSE", BoundariesTest::bookWithoutSuch);
        test("promise 19: INDEX: 3 n cells; OUTSIDE: n above 13", BoundariesTest::bookOfThirteen);
        test("promise 19: UNKNOWN: SHEET; OUTSIDE: sort; FAULTS", BoundariesTest::bookOfShortRows);
        test("CHANGES: to have more WORTH of that QUARREL alone", BoundariesTest::changesForMore);
        test("CHANGES: a set (bit 2 times QUARREL and side)", BoundariesTest::changesOfLastPlace);
        test("promise 21: OUTSIDE: n is not 1 .. 8, w is not 0 .. n", BoundariesTest::likeliestLimits);
        test("LIKELIEST: of several the least of the first, then of the other one", BoundariesTest::likeliestOfSeveral);
        test("MARRIED: HIRES that then MAY not be fall away", BoundariesTest::marriedFallsAway);
        test("MARRIED: of all sides", BoundariesTest::marriedOfAllSides);
        test("MARRIED: KIN told later than a HIRE had left it", BoundariesTest::marriedOfLeftHires);
    }

    private static void theSheets() {
        test("SHEETS: a row of 0 .. 40 numbers (0 at first)", BoundariesTest::rowsOfNoneToForty);
        test("SHEETS 0 .. 3 have nothing (at first), or a row", BoundariesTest::sheetOverNothing);
        test("promise 24: A SHEET has nothing: 1; 0: it had nothing", BoundariesTest::lostRowIsGone);
        test("what comes to a cell of it is cut to its SORT", BoundariesTest::cutToSort);
        test("FAULTS CAST (nothing is no CAST), NULL", BoundariesTest::takenAsAnotherSort);
        test("promise 27: another one (perhaps the same), as they were", BoundariesTest::copyAsTheyWere);
        test("promise 27: n", BoundariesTest::copyWholeRow);
        test("promise 27: NULL (the first, the other), CAST (unlike SORTS), INDEX: i, j, n below 0 or beyond",
            BoundariesTest::copyFaults);
        test("TELLING, CALLED by bodies that leave their number in TRACE as they begin", BoundariesTest::tellingBodies);
        test("TRACE (an int that wraps, 0 at first)", BoundariesTest::traceWraps);
        test("promise 30: CAST: he is none (each is a CHAMPION, too; a SWORN one is OLD)", BoundariesTest::asKinds);
        test("promise 32: 0: it came to none, or was refused", BoundariesTest::faultOfTheLatest);
        test("promise 33: How many", BoundariesTest::manyOf);
    }

    public static void main(String[] args) {
        theTerms();
        theLand();
        theQuarrels();
        theBest();
        theBooks();
        theSheets();
        System.out.println(tests + " sentences looked at, " + (wrong == 0 ? "all hold" : wrong + " answers are not as due"));
        if (wrong != 0) {
            System.exit(1);
        }
    }
}
