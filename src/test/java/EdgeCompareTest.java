/** What ==== 3. says of what COMES from what, and promises 21 to 26, 30, 31 and 39, sentence by sentence. */
public final class EdgeCompareTest {
    private static final int NONE = LostWords.NONE;
    private static final int MOST = Integer.MAX_VALUE;
    private static final int LEAST = Integer.MIN_VALUE;
    private static final int[] NO_SLIPS = {3, 5, -1, -2, MOST, LEAST};
    private static final String WORDS = "word a worth 1;word b worth 2;word c worth 3;word d worth 4;";

    public static void main(String[] args) {
        nothingDone();
        coming();
        ways();
        odds();
        noOdds();
        sources();
        manySources();
        threes();
        commons();
        apart();
        strange();
        comes();
        Check.finish();
    }

    private static void nothingDone() {
        Check.says(0, "==== 3. (By what is now; nothing is done.)");
        LostWords x = Check.told(WORDS + "row a b c;slip a b;");
        Check.due("ways(0, NONE)", x.ways(0, NONE), 1);
        x.change(1, 3);
        Check.due("ways(0, NONE) by what is now", x.ways(0, NONE), 0);
        x.undo();
        Check.nothing("ways", Check::busy, y -> y.ways(0, NONE) >= 0 ? 1 : 0, 1);
        Check.nothing("odds", Check::busy, y -> y.odds(1, 1) > 0 ? 1 : 0, 1);
        Check.nothing("sources", Check::busy, y -> y.sources(0, 1), 1);
        Check.nothing("mean", Check::busy, y -> y.mean(1, 1) > 0 ? 1 : 0, 1);
        Check.nothing("duel", Check::busy, y -> y.duel(1, 1) >= 0 ? 1 : 0, 1);
        Check.nothing("apart", Check::busy, y -> y.apart(0, NONE) >= 0 ? 1 : 0, 1);
        Check.nothing("strange", Check::busy, y -> y.strange(0) >= 0 ? 1 : 0, 1);
        for (int rule = 0; rule < 3; rule++) {
            int by = rule;
            Check.nothing("becomes", Check::busy, y -> y.becomes(by, 0) >= -1 ? 1 : 0, 1);
            Check.nothing("will", Check::busy, y -> y.will(by, 3) > -100 ? 1 : 0, 1);
            Check.nothing("last", Check::busy, y -> y.last(by) >= 0 ? 1 : 0, 1);
        }
        Check.nothing("mark", Check::busy, y -> y.mark(NONE) >= 0 ? 1 : 0, 1);
        Check.nothing("safe", Check::busy, y -> y.safe() >= 0 ? 1 : 0, 1);
        Check.nothing("comes", Check::busy, y -> y.comes(0), 15);
    }

    private static void coming() {
        Check.says(0, "A ROW COMES from another one, if WORDS of that one can be left out (none, too) so that it is left;");
        LostWords x = Check.told(WORDS + "slip a b c;slip a c;slip c a;slip a b c;slip a a;");
        Check.due("one WORD is left out", x.ways(1, 0), 1);
        Check.due("none is left out", x.ways(3, 0), 1);
        Check.due("a SLIP from itself", x.ways(0, 0), 1);
        Check.due("not in another order", x.ways(2, 0), 0);
        Check.due("not what has more", x.ways(0, 1), 0);
        Check.due("not a WORD twice that is there once", x.ways(4, 0), 0);
        Check.says(0, "in as many WAYS as there are sets of PLACES to be left out.");
        LostWords y = Check.told(WORDS + "row a a b b a;slip a b;slip a a;slip b;slip a a b b a;");
        Check.due("a b", y.ways(0, NONE), 4);
        Check.due("a a", y.ways(1, NONE), 3);
        Check.due("b", y.ways(2, NONE), 2);
        Check.due("all", y.ways(3, NONE), 1);
        LostWords most = Check.told("word a worth 1;row a a a a a a a a a a a a;slip a a a a a a;slip a a a a a a a a;");
        Check.due("6 of 12", most.ways(0, NONE), 924);
        Check.due("8 of 12", most.ways(1, NONE), 495);
        Check.due("12 of 12", most.ways(NONE, NONE), 1);
        Check.due("12 of 8", most.ways(NONE, 1), 0);
    }

    private static void ways() {
        Check.says(21, "WAYS in which a SLIP COMES from another one (either of NONE: the ROW at the table);");
        LostWords x = Check.told(WORDS + "row a b;slip a b a b;slip b;slip a b;");
        Check.due("ways(1, 0)", x.ways(1, 0), 2);
        Check.due("ways(2, 0)", x.ways(2, 0), 3);
        Check.due("the first of NONE", x.ways(NONE, 0), 3);
        Check.due("the other of NONE", x.ways(1, NONE), 1);
        Check.due("both of NONE", x.ways(NONE, NONE), 1);
        Check.due("not at all", x.ways(0, NONE), 0);
        LostWords none = Check.told(WORDS + "slip a b;");
        Check.due("nothing from a SLIP", none.ways(NONE, 0), 1);
        Check.due("a SLIP from nothing", none.ways(0, NONE), 0);
        Check.due("nothing from nothing", none.ways(NONE, NONE), 1);
        Check.says(21, "NONE if one can't be.");
        for (int no : new int[] {3, 5, -2, MOST, LEAST}) {
            Check.due("ways(" + no + ", 0)", x.ways(no, 0), -1);
            Check.due("ways(0, " + no + ")", x.ways(0, no), -1);
            Check.due("ways(" + no + ", NONE)", x.ways(no, NONE), -1);
            Check.due("ways(NONE, " + no + ")", x.ways(NONE, no), -1);
        }
    }

    private static void odd(LostWords x, int slip, int upper, int lower) {
        Check.due("odds(" + slip + ", 0)", x.odds(slip, 0), upper);
        Check.due("odds(" + slip + ", 1)", x.odds(slip, 1), lower);
    }

    private static void odds() {
        Check.says(0, "ODDS of a SLIP: that it is what is left of the ROW at the table behind as many ROUNDS by a draw "
            + "that is even, whatever the SEED is, as it has WORDS less.");
        LostWords x = Check.told(WORDS + "row a b a b;slip a b;slip a b a b;slip b a b a;slip b;slip a a;draw 7;");
        odd(x, 0, 1, 2);
        odd(x, 1, 1, 1);
        odd(x, 2, 0, 1);
        odd(x, 3, 1, 2);
        odd(x, 4, 1, 6);
        LostWords other = Check.told(WORDS + "row a b a b;slip a b;draw 999;");
        odd(other, 0, 1, 2);
        Check.says(22, "ODDS of a SLIP the upper part (0), the lower part (1), in lowest terms (0 of 1);");
        LostWords twelve = Check.told(WORDS + "row a a a a a a b b b b b b;slip a a a b b b;slip a;slip c;"
            + "slip a a a a a a b b;");
        // 20 times 20 WAYS of 924.
        odd(twelve, 0, 100, 231);
        odd(twelve, 1, 1, 2);
        odd(twelve, 2, 0, 1);
        odd(twelve, 3, 1, 33);
    }

    private static void noOdds() {
        Check.says(22, "NONE if it has more WORDS than the ROW, or one can't be.");
        LostWords x = Check.told(WORDS + "row a b;slip a b;slip a b a;slip b;");
        odd(x, 0, 1, 1);
        odd(x, 1, -1, -1);
        odd(Check.told(WORDS + "slip a;"), 0, -1, -1);
        for (int no : NO_SLIPS) {
            odd(x, no, -1, -1);
        }
        for (int part : new int[] {2, -1, MOST, LEAST}) {
            Check.due("odds(0, " + part + ")", x.odds(0, part), -1);
        }
    }

    private static void sources() {
        Check.says(0, "SOURCE of two SLIPS: a shortest ROW from which both COME; the first one, by WORDS' numbers from its "
            + "beginning on.");
        LostWords x = Check.told(WORDS + "slip d b;slip c b;slip b d;slip a;slip b a c;");
        Check.due("source(0, 1)", x.source(0, 1), 3);
        Check.lying("source(0, 1)", x, 2, 3, 1);
        Check.due("source(1, 0)", x.source(1, 0), 3);
        Check.lying("source(1, 0)", x, 2, 3, 1);
        Check.due("source(0, 2)", x.source(0, 2), 3);
        Check.lying("source(0, 2)", x, 1, 3, 1);
        Check.due("source(3, 4)", x.source(3, 4), 3);
        Check.lying("source(3, 4)", x, 1, 0, 2);
        Check.says(23, "SOURCE of two SLIPS (one twice, too): how many WORDS it has;");
        Check.due("source(4, 4)", x.source(4, 4), 3);
        Check.lying("source(4, 4)", x, 1, 0, 2);
        Check.due("two of one WORD", x.source(3, 3), 1);
        LostWords most = Check.told(WORDS + "slip b b b b b b b b;slip a a a a a a a a;");
        Check.due("sixteen", most.source(0, 1), 16);
        Check.says(23, "NONE if one can't be. It lies there then (behind NONE: nothing).");
        Check.lying("sixteen", most, 0, 0, 0, 0, 0, 0, 0, 0, 1, 1, 1, 1, 1, 1, 1, 1);
        LostWords three = Check.told(WORDS + "slip a b;slip b;slip c;");
        for (int no : NO_SLIPS) {
            three.source(0, 1);
            Check.due("source(0, " + no + ")", three.source(0, no), -1);
            Check.lying("source(0, " + no + ")", three);
            three.source(0, 1);
            Check.due("source(" + no + ", 0)", three.source(no, 0), -1);
            Check.lying("source(" + no + ", 0)", three);
        }
    }

    private static void manySources() {
        Check.says(24, "How many shortest ROWS there are from which both COME;");
        LostWords x = Check.told(WORDS + "slip a b;slip b a;slip a b;slip c;slip a b c d a b c d;");
        Check.due("a b a, b a b", x.sources(0, 1), 2);
        Check.due("one twice", x.sources(0, 0), 1);
        Check.due("like ones", x.sources(0, 2), 1);
        Check.due("c a b, a c b, a b c", x.sources(0, 3), 3);
        Check.due("one from the other", x.sources(0, 4), 1);
        LostWords rows = Check.told(WORDS + "slip a a;slip a b;slip b b a;");
        Check.due("a a b, a b a", rows.sources(0, 1), 2);
        Check.due("a b b a, b a b a, b b a a, however each is put together", rows.sources(0, 2), 3);
        LostWords most = Check.told(WORDS + "slip b b b b b b b b;slip a a a a a a a a;");
        Check.due("8 of 16", most.sources(0, 1), 12870);
        Check.says(24, "NONE if one can't be.");
        LostWords three = Check.told(WORDS + "row a;slip a b;slip b;slip c;");
        three.source(0, 2);
        for (int no : NO_SLIPS) {
            Check.due("sources(0, " + no + ")", three.sources(0, no), -1);
            Check.due("sources(" + no + ", 0)", three.sources(no, 0), -1);
        }
        Check.due("what lies there stays", three.about(12), 3);
    }

    private static void threes() {
        Check.says(0, "SOURCE of three likewise.");
        LostWords x = Check.told(WORDS + "slip a c;slip b c;slip d;");
        Check.due("three(0, 1, 2)", x.three(0, 1, 2), 4);
        Check.lying("three(0, 1, 2)", x, 0, 1, 2, 3);
        Check.due("three(2, 1, 0)", x.three(2, 1, 0), 4);
        Check.lying("three(2, 1, 0)", x, 0, 1, 2, 3);
        LostWords y = Check.told(WORDS + "slip a b c;slip b c a;slip c a b;");
        Check.due("in a ring", y.three(0, 1, 2), 5);
        Check.lying("in a ring", y, 0, 1, 2, 0, 1);
        Check.says(25, "SOURCE of three SLIPS: how many WORDS;");
        Check.due("one thrice", x.three(1, 1, 1), 2);
        Check.lying("one thrice", x, 1, 2);
        Check.due("one twice", x.three(0, 1, 0), 3);
        Check.lying("one twice", x, 0, 1, 2);
        LostWords most = Check.told(WORDS + "slip b b b b b b b b;slip c c c c c c c c;slip a a a a a a a a;");
        Check.due("twenty-four", most.three(0, 1, 2), 24);
        Check.says(25, "NONE if one can't be. It lies there then (behind NONE: nothing).");
        Check.lying("twenty-four", most, 0, 0, 0, 0, 0, 0, 0, 0, 1, 1, 1, 1, 1, 1, 1, 1, 2, 2, 2, 2, 2, 2, 2, 2);
        for (int no : NO_SLIPS) {
            for (int at = 0; at < 3; at++) {
                x.three(0, 0, 0);
                int got = x.three(at == 0 ? no : 0, at == 1 ? no : 1, at == 2 ? no : 2);
                Check.due("three with " + no + " at " + at, got, -1);
                Check.due("nothing lies there", x.about(12), 0);
            }
        }
    }

    private static void commons() {
        Check.says(0, "COMMON of two SLIPS: a longest ROW that COMES from both; the first one likewise.");
        LostWords x = Check.told(WORDS + "slip d a c b;slip b a c d;slip a b;");
        Check.due("common(0, 1)", x.common(0, 1), 2);
        Check.lying("common(0, 1)", x, 0, 2);
        LostWords y = Check.told(WORDS + "slip c a;slip a c;slip d;slip c a;");
        Check.due("a or c", y.common(0, 1), 1);
        Check.lying("a, not c", y, 0);
        LostWords again = Check.told(WORDS + "slip a b;slip a b a;slip b a b;slip b b;slip b;");
        int[][] want = {{0, 1}, {0, 1, 0}, {0, 1}, {1}, {1}};
        for (int slip = 0; slip < want.length; slip++) {
            Check.due("with a b a", again.common(1, slip), want[slip].length);
            Check.lying("with a b a", again, want[slip]);
            Check.due("a b a with it", again.common(slip, 1), want[slip].length);
            Check.lying("a b a with it", again, want[slip]);
        }
        Check.due("b b with b b", again.common(3, 3), 2);
        Check.due("b with b b", again.common(4, 3), 1);
        Check.due("b b with b", again.common(3, 4), 1);
        Check.says(26, "COMMON: how many WORDS;");
        Check.due("one twice", x.common(0, 0), 4);
        Check.due("like ones", y.common(0, 3), 2);
        Check.due("none", y.common(0, 2), 0);
        Check.lying("none", y);
        LostWords most = Check.told(WORDS + "slip a b c d a b c d;slip a b c d a b c d;slip a;slip b;");
        Check.due("eight", most.common(0, 1), 8);
        Check.due("none behind eight", most.common(2, 3), 0);
        Check.due("eight again", most.common(0, 1), 8);
        Check.says(26, "NONE if one can't be. It lies there then (behind NONE: nothing).");
        Check.lying("eight", most, 0, 1, 2, 3, 0, 1, 2, 3);
        for (int no : NO_SLIPS) {
            x.common(0, 1);
            Check.due("common(0, " + no + ")", x.common(0, no), -1);
            Check.lying("common(0, " + no + ")", x);
            x.common(0, 1);
            Check.due("common(" + no + ", 0)", x.common(no, 0), -1);
            Check.lying("common(" + no + ", 0)", x);
        }
    }

    private static void apart() {
        Check.says(0, "APART are two ROWS by the fewest WORDS that are left out, put in, changed, so that the one is the "
            + "other.");
        LostWords x = Check.told(WORDS + "row a b c;slip a c;slip a b d c;slip a d c;slip d c a;slip b c a;");
        Check.due("one is left out", x.apart(NONE, 0), 1);
        Check.due("one is put in", x.apart(NONE, 1), 1);
        Check.due("one is changed", x.apart(NONE, 2), 1);
        Check.due("three are", x.apart(NONE, 3), 3);
        Check.due("one is left out, one put in", x.apart(NONE, 4), 2);
        Check.says(30, "APART (either of NONE: the ROW at the table);");
        Check.due("the first of NONE", x.apart(NONE, 1), 1);
        Check.due("the other of NONE", x.apart(1, NONE), 1);
        Check.due("both of NONE", x.apart(NONE, NONE), 0);
        Check.due("two SLIPS", x.apart(0, 1), 2);
        Check.due("a SLIP twice", x.apart(1, 1), 0);
        LostWords none = Check.told(WORDS + "slip a b a;");
        Check.due("nothing and a SLIP", none.apart(NONE, 0), 3);
        Check.due("a SLIP and nothing", none.apart(0, NONE), 3);
        LostWords far = Check.told(WORDS + "row a a a a a a a a a a a a;slip b b b b b b b b;");
        Check.due("the farthest", far.apart(0, NONE), 12);
        Check.says(30, "NONE if one can't be.");
        for (int no : new int[] {5, -2, MOST, LEAST}) {
            Check.due("apart(" + no + ", 0)", x.apart(no, 0), -1);
            Check.due("apart(0, " + no + ")", x.apart(0, no), -1);
            Check.due("apart(NONE, " + no + ")", x.apart(NONE, no), -1);
            Check.due("apart(" + no + ", NONE)", x.apart(no, NONE), -1);
        }
    }

    private static void strange() {
        Check.says(31, "How many of a SLIP's WORDS at least would have to go, so that it COMES from the ROW at the table;");
        LostWords x = Check.told(WORDS + "row a b c;slip a c;slip a d c;slip c b a;slip d d;slip a b c a b c;");
        Check.due("none", x.strange(0), 0);
        Check.due("one", x.strange(1), 1);
        Check.due("two", x.strange(2), 2);
        Check.due("all", x.strange(3), 2);
        Check.due("what is there twice", x.strange(4), 3);
        LostWords twice = Check.told(WORDS + "row a a;slip a;slip a a a;");
        Check.due("one of two", twice.strange(0), 0);
        Check.due("three of two", twice.strange(1), 1);
        LostWords behind = Check.told(WORDS + "row b;slip a b c d a b c d;slip a;");
        behind.common(0, 0);
        Check.due("one of one, behind what had eight in common", behind.strange(1), 1);
        Check.due("without a ROW", Check.told(WORDS + "slip a b;").strange(0), 2);
        LostWords twelve = Check.told(WORDS + "row a b a b a b a b a b a b;slip b b b b b b b b;");
        Check.due("of twelve", twelve.strange(0), 2);
        Check.says(31, "NONE if there is none such.");
        for (int no : new int[] {5, -1, -2, MOST, LEAST}) {
            Check.due("strange(" + no + ")", x.strange(no), -1);
        }
    }

    private static void comes() {
        Check.says(39, "SLIPS that COME from a SLIP (it, too), as bits;");
        LostWords x = Check.told(WORDS + "slip a b c;slip b;slip a c;slip a b c;slip c a;");
        Check.due("comes(0)", x.comes(0), 15);
        Check.due("comes(1), it alone", x.comes(1), 2);
        Check.due("comes(2)", x.comes(2), 4);
        Check.due("comes(3), a like one too", x.comes(3), 15);
        Check.due("comes(4)", x.comes(4), 16);
        Check.says(39, "NONE if there is none such.");
        for (int no : new int[] {5, -1, -2, MOST, LEAST}) {
            Check.due("comes(" + no + ")", x.comes(no), -1);
        }
        Check.due("comes(1) of one", Check.told(WORDS + "slip a;").comes(1), -1);
        Check.due("comes(0) of none", Check.told(WORDS + "row a;").comes(0), -1);
    }
}
