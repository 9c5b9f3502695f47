/** Promises 21 to 26, 30, 31, 39, 40: what comes from what, shortest and longest ROWS. */
public final class CompareTest {
    private static final String WORDS = "word a worth 1; word b worth 2; word c worth 3; word d worth 4; ";

    public static void main(String[] args) {
        ways();
        odds();
        sources();
        threes();
        commons();
        edits();
        Check.finish();
    }

    private static void ways() {
        LostWords x = Check.told(WORDS + "row a b a b a b; slip a b; slip b a a; slip a b a b a b; slip c;");
        Check.due("ways(0, -1)", x.ways(0, -1), 6);
        Check.due("ways(1, -1)", x.ways(1, -1), 1);
        Check.due("ways(2, -1)", x.ways(2, -1), 1);
        Check.due("ways(-1, 2)", x.ways(-1, 2), 1);
        Check.due("ways(3, -1)", x.ways(3, -1), 0);
        Check.due("ways(-1, 0)", x.ways(-1, 0), 0);
        Check.due("ways(0, 2)", x.ways(0, 2), 6);
        Check.due("ways(0, 0)", x.ways(0, 0), 1);
        Check.due("ways(4, 0)", x.ways(4, 0), -1);
        Check.due("ways(0, 4)", x.ways(0, 4), -1);
        Check.due("ways(-2, 0)", x.ways(-2, 0), -1);
        for (int i = 0; i < 6; i++) {
            x.leave(0);
        }
        Check.due("nothing comes from a slip in one way", x.ways(-1, 0), 1);
        Check.due("a slip does not come from nothing", x.ways(0, -1), 0);
        LostWords many = Check.told(WORDS + "row a a a a a a a a a a a a; slip a a a a a a;");
        Check.due("the most ways", many.ways(0, -1), 924);
        LostWords c = Check.told(WORDS + "slip a b c; slip a c; slip c a; slip a b c; slip b;");
        Check.due("comes(0)", c.comes(0), 1 + 2 + 8 + 16);
        Check.due("comes(1)", c.comes(1), 2);
        Check.due("comes(2)", c.comes(2), 4);
        Check.due("comes(4)", c.comes(4), 16);
        Check.due("comes(5)", c.comes(5), -1);
        Check.due("comes(-1)", c.comes(-1), -1);
    }

    private static void odd(LostWords x, int slip, int upper, int lower) {
        Check.due("odds(" + slip + ", 0)", x.odds(slip, 0), upper);
        Check.due("odds(" + slip + ", 1)", x.odds(slip, 1), lower);
    }

    private static void odds() {
        LostWords x = Check.told(WORDS + "row a b a b a b; slip a b; slip b a a; slip a b a b a b; slip c; "
            + "slip a a a a a a a;");
        odd(x, 0, 2, 5);
        odd(x, 1, 1, 20);
        odd(x, 2, 1, 1);
        odd(x, 3, 0, 1);
        odd(x, 4, -1, -1);
        odd(x, 5, -1, -1);
        odd(x, -1, -1, -1);
        Check.due("odds(0, 2)", x.odds(0, 2), -1);
        Check.due("odds(0, -1)", x.odds(0, -1), -1);
    }

    private static void sources() {
        LostWords x = Check.told(WORDS + "slip b c; slip a c; slip a b c; slip d d d d d d d d; "
            + "slip a a a a a a a a;");
        Check.due("source(0, 1)", x.source(0, 1), 3);
        Check.lying("source(0, 1)", x, 0, 1, 2);
        Check.due("sources(0, 1)", x.sources(0, 1), 2);
        Check.due("source(1, 0)", x.source(1, 0), 3);
        Check.lying("source(1, 0)", x, 0, 1, 2);
        Check.due("source(0, 2)", x.source(0, 2), 3);
        Check.due("sources(0, 2)", x.sources(0, 2), 1);
        Check.due("source(0, 0)", x.source(0, 0), 2);
        Check.lying("source(0, 0)", x, 1, 2);
        Check.due("sources(0, 0)", x.sources(0, 0), 1);
        Check.lying("sources lays nothing", x, 1, 2);
        Check.due("source(3, 4)", x.source(3, 4), 16);
        Check.lying("source(3, 4)", x, 0, 0, 0, 0, 0, 0, 0, 0, 3, 3, 3, 3, 3, 3, 3, 3);
        Check.due("sources(3, 4)", x.sources(3, 4), 12870);
        Check.due("source(0, 5)", x.source(0, 5), -1);
        Check.lying("source(0, 5)", x);
        x.source(0, 0);
        Check.due("source(-1, 0)", x.source(-1, 0), -1);
        Check.lying("source(-1, 0)", x);
        Check.due("sources(0, 5)", x.sources(0, 5), -1);
        Check.due("sources(-1, 0)", x.sources(-1, 0), -1);
    }

    private static void threes() {
        LostWords x = Check.told(WORDS + "slip b c; slip a c; slip c a; slip b b b b b b b b; slip d c;");
        Check.due("three(0, 1, 2)", x.three(0, 1, 2), 4);
        Check.lying("three(0, 1, 2)", x, 0, 1, 2, 0);
        Check.due("three(2, 0, 1)", x.three(2, 0, 1), 4);
        Check.lying("three(2, 0, 1)", x, 0, 1, 2, 0);
        Check.due("three(0, 0, 0)", x.three(0, 0, 0), 2);
        Check.lying("three(0, 0, 0)", x, 1, 2);
        Check.due("three(4, 1, 0)", x.three(4, 1, 0), 4);
        Check.lying("three(4, 1, 0)", x, 0, 1, 3, 2);
        Check.due("three(0, 1, 5)", x.three(0, 1, 5), -1);
        Check.lying("three(0, 1, 5)", x);
        x.three(0, 0, 0);
        Check.due("three(-1, 1, 0)", x.three(-1, 1, 0), -1);
        Check.lying("three(-1, 1, 0)", x);
        Check.due("three(0, 5, 1)", x.three(0, 5, 1), -1);
        LostWords most = Check.told(WORDS + "slip d d d d d d d d; slip b b b b b b b b; slip c c c c c c c c;");
        Check.due("three of 24", most.three(0, 1, 2), 24);
        Check.due("its first", most.lies(0), 1);
        Check.due("its 17th", most.lies(16), 3);
        Check.due("its last", most.lies(23), 3);
        Check.due("numbers there", most.about(12), 24);
    }

    private static void commons() {
        LostWords x = Check.told(WORDS + "slip b a c d; slip a b d c; slip c d; slip d c b a; slip a;");
        Check.due("common(0, 1)", x.common(0, 1), 2);
        Check.lying("common(0, 1)", x, 0, 2);
        Check.due("common(1, 0)", x.common(1, 0), 2);
        Check.lying("common(1, 0)", x, 0, 2);
        Check.due("common(0, 3)", x.common(0, 3), 2);
        Check.lying("common(0, 3)", x, 1, 0);
        Check.due("common(2, 2)", x.common(2, 2), 2);
        Check.lying("common(2, 2)", x, 2, 3);
        Check.due("common(2, 4)", x.common(2, 4), 0);
        Check.lying("common(2, 4)", x);
        x.common(2, 2);
        Check.due("common(0, 5)", x.common(0, 5), -1);
        Check.lying("common(0, 5)", x);
        x.common(2, 2);
        Check.due("common(-1, 0)", x.common(-1, 0), -1);
        Check.lying("common(-1, 0)", x);
    }

    private static void edits() {
        LostWords x = Check.told(WORDS + "row a b c d; slip b c d a; slip a c d; slip d d d d d; slip a b c d;");
        Check.due("apart(0, -1)", x.apart(0, -1), 2);
        Check.due("apart(-1, 0)", x.apart(-1, 0), 2);
        Check.due("apart(1, -1)", x.apart(1, -1), 1);
        Check.due("apart(2, -1)", x.apart(2, -1), 4);
        Check.due("apart(3, -1)", x.apart(3, -1), 0);
        Check.due("apart(0, 1)", x.apart(0, 1), 2);
        Check.due("apart(-1, -1)", x.apart(-1, -1), 0);
        Check.due("apart(4, 0)", x.apart(4, 0), -1);
        Check.due("apart(0, 4)", x.apart(0, 4), -1);
        Check.due("apart(-2, 0)", x.apart(-2, 0), -1);
        Check.due("strange(0)", x.strange(0), 1);
        Check.due("strange(1)", x.strange(1), 0);
        Check.due("strange(2)", x.strange(2), 4);
        Check.due("strange(3)", x.strange(3), 0);
        Check.due("strange(4)", x.strange(4), -1);
        Check.due("strange(-1)", x.strange(-1), -1);
        LostWords twelve = Check.told(WORDS + "row a b c d a b c d a b c d; slip d d d; slip b c d a b c d a;");
        Check.due("apart from twelve", twelve.apart(0, -1), 9);
        Check.due("eight apart from twelve", twelve.apart(-1, 1), 4);
        Check.due("twelve apart from twelve", twelve.apart(-1, -1), 0);
        Check.due("twelve from twelve", twelve.ways(-1, -1), 1);
        Check.due("strange to twelve", twelve.strange(1), 0);
        LostWords none = Check.told(WORDS + "slip b c d a;");
        Check.due("apart from nothing", none.apart(0, -1), 4);
        Check.due("strange without a row", none.strange(0), 4);
    }
}
