/** What ==== 3. says of losses and MARKS, and promises 27 to 29 and 32 to 37, sentence by sentence. */
public final class EdgeLossTest {
    private static final int GAP = LostWords.GAP;
    private static final int NONE = LostWords.NONE;
    private static final int MOST = Integer.MAX_VALUE;
    private static final int LEAST = Integer.MIN_VALUE;
    private static final int[] NO_PARTS = {2, -1, MOST, LEAST};
    private static final int[] NO_RULES = {3, -1, MOST, LEAST};
    private static final String TEXT = "word a worth 4;word b worth 9;word c worth 2;"
        + "beside a b 3;beside b a -2;beside b b 5;beside c a 1;";

    public static void main(String[] args) {
        keepLimits();
        keeping();
        noKeep();
        means();
        noMeans();
        duels();
        noDuels();
        becoming();
        will();
        last();
        marks();
        mending();
        mendedFirst();
        safe();
        Check.finish();
    }

    private static LostWords row(int size) {
        return Check.told(TEXT + (size == 0 ? "" : "row" + " a b b c".repeat(3).substring(0, 2 * size) + ";"));
    }

    private static void keepLimits() {
        Check.says(0, "KEEP of n: which n WORDS of the ROW at the table to leave out (0 .. 4, fewer than it has)");
        for (int size = 0; size <= 12; size++) {
            LostWords x = row(size);
            for (int n = -1; n <= 5; n++) {
                boolean canBe = n >= 0 && n <= 4 && n < size;
                Check.due("keep(" + n + ", 0) of " + size, x.keep(n, 0) != GAP, canBe);
                Check.due("PLACES that lie there", x.about(12), canBe ? n : 0);
                Check.due("keep(" + n + ", 1) of " + size, x.keep(n, 1) != GAP, canBe);
                Check.due("PLACES that lie there", x.about(12), canBe ? n : 0);
                Check.due("mean(" + n + ", 0) of " + size, x.mean(n, 0) != GAP, canBe);
                boolean canDuel = n >= 1 && n <= 4 && n <= size;
                Check.due("duel(" + n + ", 0) of " + size, x.duel(n, 0) != GAP, canDuel);
                Check.due("duel(" + n + ", 1) of " + size, x.duel(n, 1) != GAP, canDuel);
            }
        }
    }

    private static void keeping() {
        Check.says(0, "so that what is left has most SENSE, or least;");
        LostWords x = Check.told(TEXT + "row a b a b c;");
        Check.due("a b b c", x.keep(1, 0), 8);
        Check.lying("a b b c", x, 2);
        Check.due("b a b c, a b a c", x.keep(1, 1), 1);
        Check.says(0, "of like ones the first PLACES left out.");
        Check.lying("b a b c", x, 0);
        Check.due("of 0", x.keep(3, 1), -2);
        Check.lying("b a: PLACES 1, 2 are left", x, 0, 3, 4);
        LostWords like = Check.told("word a worth 1;row a a a a a a;");
        for (int n = 0; n <= 4; n++) {
            Check.due("all are like", like.keep(n, 0), 0);
            for (int i = 0; i < n; i++) {
                Check.due("the first " + n, like.lies(i), i);
            }
            Check.due("all are like", like.keep(n, 1), 0);
            Check.due("the last of the first " + n, like.lies(n - 1), n - 1);
        }
        Check.says(27, "KEEP what 0: the most SENSE, 1: the least;");
        LostWords four = Check.told(TEXT + "row b a b a b b a b;");
        Check.due("the most", four.keep(4, 0), 15);
        Check.lying("the most: b b b b, without the first b", four, 0, 1, 3, 6);
        Check.due("the least", four.keep(4, 1), -2);
        Check.lying("the least: b a a a", four, 2, 4, 5, 7);
        Check.due("none is left out", four.keep(0, 0), four.sense(-1));
        Check.lying("none", four);
        Check.due("by the ROW now", four.leave(0) * 100 + four.keep(0, 1), 100 + four.sense(-1));
    }

    private static void noKeep() {
        Check.says(27, "GAP if one can't be. The PLACES that are left out lie there then (behind GAP: nothing).");
        LostWords x = Check.told(TEXT + "row a b a b c a;");
        x.keep(2, 0);
        Check.due("two PLACES", x.about(12), 2);
        for (int n : new int[] {-1, 5, 6, MOST, LEAST}) {
            x.keep(2, 0);
            Check.due("keep(" + n + ", 0)", x.keep(n, 0), GAP);
            Check.lying("keep(" + n + ", 0)", x);
        }
        for (int what : NO_PARTS) {
            x.keep(2, 0);
            Check.due("keep(1, " + what + ")", x.keep(1, what), GAP);
            Check.lying("keep(1, " + what + ")", x);
        }
    }

    private static void mean(LostWords x, int n, int upper, int lower) {
        Check.due("mean(" + n + ", 0)", x.mean(n, 0), upper);
        Check.due("mean(" + n + ", 1)", x.mean(n, 1), lower);
    }

    private static void means() {
        Check.says(0, "MEAN of n: the SENSE of what is left, over all such sets of PLACES on the mean.");
        LostWords x = Check.told(TEXT + "row b b a;");
        // b b a 3; b a -2, b a -2, b b 5; b, b, a 0.
        mean(x, 0, 3, 1);
        mean(x, 1, 1, 3);
        mean(x, 2, 0, 1);
        LostWords twelve = Check.told("word a worth 1;beside a a 1;row a a a a a a a a a a a a;");
        for (int n = 0; n <= 4; n++) {
            mean(twelve, n, 11 - n, 1);
        }
        Check.says(28, "MEAN the upper part (0; it may be below 0), the lower part (1), in lowest terms (0 of 1);");
        mean(Check.told(TEXT + "row b a a;"), 1, -4, 3);
        mean(Check.told(TEXT + "row b a a;"), 0, -2, 1);
        mean(Check.told(TEXT + "row b a b a;"), 2, 1, 3);
        mean(Check.told(TEXT + "row a c b;"), 1, 1, 1);
        mean(Check.told(TEXT + "row a a;"), 1, 0, 1);
        mean(Check.told("word a worth 1;beside a a -9;row a a a a a a a a a a a a;"), 0, -99, 1);
    }

    private static void noMeans() {
        Check.says(28, "GAP if one can't be.");
        LostWords x = Check.told(TEXT + "row a b a b c a;");
        for (int n : new int[] {-1, 5, 6, MOST, LEAST}) {
            mean(x, n, GAP, GAP);
        }
        for (int part : NO_PARTS) {
            Check.due("mean(1, " + part + ")", x.mean(1, part), GAP);
        }
        mean(Check.told(TEXT), 0, GAP, GAP);
        mean(Check.told(TEXT + "row a;"), 1, GAP, GAP);
        mean(Check.told(TEXT + "row a;"), 0, 0, 1);
    }

    private static void duel(LostWords x, int n, int sense, int place) {
        Check.due("duel(" + n + ", 0)", x.duel(n, 0), sense);
        Check.due("duel(" + n + ", 1)", x.duel(n, 1), place);
    }

    private static void duels() {
        Check.says(0, "DUEL of n (1 .. 4, no more than it has): two leave out one WORD each by turns, n in all, the first "
            + "one so that SENSE at last is most, the other one so that it is least.");
        LostWords x = Check.told(TEXT + "row a b b a;");
        // Without 0: b b a 3, 1: a b a 1, 2: a b a 1, 3: a b b 8.
        duel(x, 1, 8, 3);
        // Behind a b b the other one leaves a b 3; behind b b a: b a -2; behind a b a: b a -2.
        duel(x, 2, 3, 3);
        duel(x, 3, 0, 0);
        duel(x, 4, 0, 0);
        LostWords three = Check.told(TEXT + "row b a b a b;");
        // The first one leaves out both a, if the other one does not, and has the last turn, too.
        duel(three, 3, 5, 1);
        Check.says(29, "DUEL what 0: SENSE at last, 1: the PLACE that the first one leaves out at first (of like ones the "
            + "first);");
        duel(Check.told(TEXT + "row c a b b;"), 1, 8, 0);
        duel(Check.told(TEXT + "row a a a;"), 2, 0, 0);
        duel(Check.told(TEXT + "row b b b c;"), 1, 10, 3);
        duel(Check.told(TEXT + "row b b c b;"), 1, 10, 2);
        duel(Check.told(TEXT + "row c;"), 1, 0, 0);
        duel(Check.told(TEXT + "row a b c;"), 1, 3, 2);
        duel(Check.told(TEXT + "row b a b b b b b b b b b a;"), 1, 43, 1);
        duel(Check.told(TEXT + "row b b b b b b b b b b b b;"), 4, 35, 0);
    }

    private static void noDuels() {
        Check.says(29, "GAP if one can't be.");
        LostWords x = Check.told(TEXT + "row a b a b c a;");
        for (int n : new int[] {0, -1, 5, 6, MOST, LEAST}) {
            duel(x, n, GAP, GAP);
        }
        for (int what : NO_PARTS) {
            Check.due("duel(1, " + what + ")", x.duel(1, what), GAP);
        }
        duel(Check.told(TEXT), 1, GAP, GAP);
        duel(Check.told(TEXT + "row a b;"), 3, GAP, GAP);
        duel(Check.told(TEXT + "row a b;"), 2, 0, 0);
        LostWords fewer = Check.told(TEXT + "row a b b b;");
        Check.due("of four", fewer.duel(2, 0), 5);
        fewer.leave(3);
        fewer.leave(2);
        duel(fewer, 2, 0, 0);
    }

    private static void becoming() {
        Check.says(32, "Behind how many ROUNDS by a RULE (0: now) the ROW at the table is a SLIP;");
        LostWords x = Check.told(TEXT + "row b a c a;slip b a c a;slip b a a;slip a c a;slip b;slip c;draw 7;");
        Check.due("now, by rule 0", x.becomes(0, 0), 0);
        Check.due("now, by rule 1", x.becomes(1, 0), 0);
        Check.due("now, by rule 2", x.becomes(2, 0), 0);
        // By a draw: 7 becomes 30, by 4 PLACE 2: b a a.
        Check.due("by a draw", x.becomes(0, 1), 1);
        Check.due("by the least", x.becomes(1, 1), 1);
        Check.due("by the greatest", x.becomes(2, 2), 1);
        Check.due("b at last by the least", x.becomes(1, 3), 3);
        Check.due("c at last by the greatest", x.becomes(2, 4), 3);
        LostWords far = Check.told(TEXT + "row a b c a b c a b c a b c;slip b;slip c;");
        Check.due("behind eleven by the least", far.becomes(1, 0), 11);
        Check.due("behind eleven by the greatest", far.becomes(2, 1), 11);
        Check.says(32, "NONE if it never is, or one can't be.");
        Check.due("never", x.becomes(1, 2), -1);
        LostWords near = Check.told(TEXT + "row b a c a;slip b c a;slip c a a;slip b a c;slip b a;slip b c;");
        for (int slip = 0; slip < 3; slip++) {
            Check.due("one WORD is another one: never", near.becomes(1, slip), -1);
        }
        Check.due("two", near.becomes(1, 3), 2);
        Check.due("the last is another one: never", near.becomes(1, 4), -1);
        Check.due("never what is longer", Check.told(TEXT + "row a;slip a a;").becomes(1, 0), -1);
        Check.due("never without a ROW", Check.told(TEXT + "slip a;").becomes(0, 0), -1);
        for (int rule : NO_RULES) {
            Check.due("becomes(" + rule + ", 0)", x.becomes(rule, 0), -1);
        }
        for (int slip : new int[] {5, -1, -2, MOST, LEAST}) {
            Check.due("becomes(1, " + slip + ")", x.becomes(1, slip), -1);
        }
    }

    private static void will() {
        Check.says(33, "What SENSE the ROW at the table would have behind n ROUNDS (0 .. 12, till no WORD is left) by a RULE;");
        LostWords x = Check.told(TEXT + "row a b b a c;draw 7;");
        for (int rule = 0; rule < 3; rule++) {
            for (int n = 0; n <= 12; n++) {
                LostWords played = Check.told(TEXT + "row a b b a c;draw 7;");
                for (int i = 0; i < n; i++) {
                    played.round(rule);
                }
                Check.due("will(" + rule + ", " + n + ")", x.will(rule, n), played.sense(NONE));
            }
        }
        Check.due("behind none", x.will(1, 0), 6);
        Check.due("a b b a", x.will(1, 1), 6);
        Check.due("without a ROW", Check.told(TEXT).will(0, 12), 0);
        LostWords twelve = Check.told(TEXT + "row b b b b b b b b b b b b;");
        Check.due("behind ten of twelve", twelve.will(2, 10), 5);
        Check.due("behind twelve of twelve", twelve.will(2, 12), 0);
        Check.says(33, "GAP if one can't be.");
        for (int n : new int[] {13, -1, MOST, LEAST}) {
            Check.due("will(1, " + n + ")", x.will(1, n), GAP);
        }
        for (int rule : NO_RULES) {
            Check.due("will(" + rule + ", 1)", x.will(rule, 1), GAP);
            Check.due("will(" + rule + ", 0)", x.will(rule, 0), GAP);
        }
    }

    private static void last() {
        Check.says(34, "The WORD that would be left last, if ROUNDS by a RULE went on;");
        LostWords x = Check.told(TEXT + "row b a c a;draw 7;");
        Check.due("by the least", x.last(1), 1);
        Check.due("by the greatest", x.last(2), 2);
        LostWords played = Check.told(TEXT + "row b a c a;draw 7;");
        for (int i = 0; i < 3; i++) {
            played.round(0);
        }
        Check.due("by a draw", x.last(0), played.word(0));
        for (int rule = 0; rule < 3; rule++) {
            Check.due("of one WORD", Check.told(TEXT + "row c;").last(rule), 2);
            Check.due("of twelve", Check.told(TEXT + "row b b b b b b b b b b b b;").last(rule), 1);
        }
        Check.says(34, "NONE without a ROW, or for another RULE.");
        for (int rule = 0; rule < 3; rule++) {
            Check.due("without a ROW", Check.told(TEXT).last(rule), -1);
            LostWords gone = Check.told(TEXT + "row a;");
            gone.leave(0);
            Check.due("when all is left out", gone.last(rule), -1);
        }
        for (int rule : NO_RULES) {
            Check.due("last(" + rule + ")", x.last(rule), -1);
        }
    }

    private static void marks() {
        Check.says(0, "MARK of a ROW: over its PLACES, each one more times the worth of its WORD, together, modulo 100.");
        LostWords x = Check.told("word a worth 20;word b worth 19;word c worth 0;word d worth 1;"
            + "slip a;slip a a a;slip a a b d;slip c c c;slip c a b;");
        Check.due("20", x.mark(0), 20);
        Check.due("20 + 40 + 60 = 120", x.mark(1), 20);
        Check.due("20 + 40 + 57 + 4 = 121", x.mark(2), 21);
        Check.due("0", x.mark(3), 0);
        Check.due("0 + 40 + 57 = 97", x.mark(4), 97);
        LostWords hundred = Check.told("word a worth 20;word b worth 10;word d worth 19;word e worth 1;"
            + "slip a b a;slip d e e e e e e e;slip b b b b;slip b a e d;");
        Check.due("20 + 20 + 60 = 100", hundred.mark(0), 0);
        Check.due("19 + 2 + 3 + 4 + 5 + 6 + 7 + 8 = 54", hundred.mark(1), 54);
        Check.due("10 + 20 + 30 + 40 = 100", hundred.mark(2), 0);
        Check.due("10 + 40 + 3 + 76 = 129", hundred.mark(3), 29);
        LostWords most = Check.told("word a worth 20;row a a a a a a a a a a a a;");
        Check.due("20 times 78 = 1560", most.mark(NONE), 60);
        Check.says(35, "MARK of a SLIP (of NONE: the ROW at the table);");
        LostWords y = Check.told(TEXT + "row a b;slip b a;");
        Check.due("mark(0)", y.mark(0), 17);
        Check.due("mark(NONE)", y.mark(NONE), 22);
        y.leave(0);
        Check.due("mark(NONE) now", y.mark(NONE), 9);
        Check.due("mark(NONE) without a ROW", Check.told(TEXT).mark(NONE), 0);
        Check.says(35, "NONE if there is none such.");
        for (int slip : new int[] {1, 5, -2, MOST, LEAST}) {
            Check.due("mark(" + slip + ")", y.mark(slip), -1);
        }
    }

    private static void mending() {
        Check.says(0, "MENDED: how many ROWS of one WORD more than a SLIP's there are from which it COMES and whose MARK is "
            + "told; the first one, by WORDS' numbers from its beginning on.");
        LostWords x = Check.told("word a worth 1;word b worth 2;slip a;slip b b;");
        // a a 3, b a 4, a b 5; b b a 9, b a b 10, a b b 11, b b b 12.
        int[][] want = {{0, 2, 0}, {0, 3, 1}, {0, 4, 1}, {0, 5, 1}, {0, 6, 0}, {1, 8, 0}, {1, 9, 1}, {1, 10, 1},
            {1, 11, 1}, {1, 12, 1}, {1, 13, 0}};
        for (int[] each : want) {
            Check.due("mended(" + each[0] + ", " + each[1] + ")", x.mended(each[0], each[1]), each[2]);
        }
        x.mended(0, 3);
        Check.lying("a a, in two ways one ROW", x, 0, 0);
        x.mended(1, 10);
        Check.lying("b a b", x, 1, 0, 1);
        Check.says(36, "MENDED (a MARK 0 .. 99): how many;");
        LostWords edge = Check.told("word a worth 0;word b worth 20;word c worth 19;slip a a a;slip b b c;");
        // Four a make 0, and so does b at the end never: 80.
        Check.due("a MARK of 0", edge.mended(0, 0), 1);
        Check.due("a MARK of 80", edge.mended(0, 80), 1);
        Check.lying("b behind three a", edge, 0, 0, 0, 1);
        int all = 0;
        for (int mark = 0; mark <= 99; mark++) {
            all += edge.mended(1, mark);
        }
        Check.due("ROWS of all MARKS: 3 times 4 PLACES, three of them twice", all, 9);
        Check.says(36, "NONE if one can't be. The first lies there then (behind 0, NONE: nothing).");
        for (int mark : new int[] {-1, 100, MOST, LEAST}) {
            edge.mended(0, 0);
            Check.due("mended(0, " + mark + ")", edge.mended(0, mark), -1);
            Check.lying("mended(0, " + mark + ")", edge);
        }
        for (int slip : new int[] {2, 5, -1, -2, MOST, LEAST}) {
            edge.mended(0, 0);
            Check.due("mended(" + slip + ", 0)", edge.mended(slip, 0), -1);
            Check.lying("mended(" + slip + ", 0)", edge);
        }
        edge.mended(0, 0);
        Check.due("none", edge.mended(0, 1), 0);
        Check.lying("none", edge);
    }

    private static void mendedFirst() {
        LostWords x = Check.told("word a worth 3;word b worth 3;word c worth 3;slip b a b a b a b a;");
        // All worths are like: each ROW of nine has a MARK of 3 times 45, 35.
        Check.due("all ROWS of nine: 3 times 9, less eight that are made twice", x.mended(0, 35), 19);
        Check.lying("the first of them", x, 0, 1, 0, 1, 0, 1, 0, 1, 0);
        // b a by 10: c b a, and b a b, which is ahead of it by its first WORD.
        LostWords ahead = Check.told("word a worth 1;word b worth 2;word c worth 3;slip b a;");
        Check.due("c b a, b a b", ahead.mended(0, 10), 2);
        Check.lying("b a b", ahead, 1, 0, 1);
        LostWords third = Check.told("word a worth 1;word b worth 3;word c worth 2;slip a b a;");
        Check.due("b a b a, a c b a, a b a c", third.mended(0, 18), 3);
        Check.lying("a b a c is ahead by its second WORD", third, 0, 1, 0, 2);
        LostWords y = Check.told("word a worth 3;word b worth 3;word c worth 3;slip a b;");
        Check.due("a b and one more", y.mended(0, 18), 7);
        Check.lying("a a b is ahead of a b a", y, 0, 0, 1);
    }

    private static void safe() {
        Check.says(0, "SAFE is a PLACE of the ROW at the table, if what is left without its WORD is MENDED, by the MARK of "
            + "the whole ROW, by that ROW alone.");
        Check.due("a by 1, b by 5", Check.told("word a worth 1;word b worth 5;row a a b;").safe(), 7);
        Check.due("two of like worth", Check.told("word a worth 3;word b worth 3;row a b;").safe(), 0);
        LostWords some = Check.told("word a worth 1;word b worth 2;word c worth 3;row b a b;");
        // 10: without the first a b: b a b alone; without a: b b: b a b alone; without the last b a: c b a, too.
        Check.due("two of three", some.safe(), 3);
        Check.says(37, "SAFE PLACES, as bits (0 without a ROW).");
        Check.due("without a ROW", Check.told(TEXT).safe(), 0);
        Check.due("one WORD", Check.told("word a worth 5;row a;").safe(), 1);
        Check.due("one WORD of two alike", Check.told("word a worth 5;word b worth 5;row a;").safe(), 0);
        LostWords twelve = Check.told("word a worth 1;row a a a a a a a a a a a a;");
        Check.due("twelve", twelve.safe(), 4095);
        some.leave(2);
        // b a: 4: without b: b a alone; without a: b a alone (a b is 5, c b is 7).
        Check.due("by the ROW now", some.safe(), 3);
        Check.nothing("safe() lays nothing", Check::busy, x -> x.safe() >= 0 ? 0 : 1, 0);
    }
}
