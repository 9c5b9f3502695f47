/** Promises 27 to 29 and 32 to 37: KEEP, MEAN, DUEL, ROUNDS ahead, MARK, MENDED, SAFE. */
public final class LossTest {
    private static final int GAP = LostWords.GAP;
    private static final String TEXT = "word a worth 4; word b worth 9; word c worth 2; "
        + "beside a b 3; beside b a -2; beside b b 5; beside c a 1; ";

    public static void main(String[] args) {
        keeping();
        means();
        duels();
        ahead();
        marks();
        mending();
        safety();
        Check.finish();
    }

    private static void keeping() {
        LostWords x = Check.told(TEXT + "row a b a b c;");
        // Without a loss 3 - 2 + 3 + 0; without PLACE 2: a b b c.
        Check.due("keep(0, 0)", x.keep(0, 0), 4);
        Check.lying("keep(0, 0)", x);
        Check.due("keep(1, 0)", x.keep(1, 0), 8);
        Check.lying("keep(1, 0)", x, 2);
        Check.due("keep(1, 1)", x.keep(1, 1), 1);
        Check.lying("keep(1, 1), the first of like ones", x, 0);
        Check.due("keep(2, 0)", x.keep(2, 0), 8);
        Check.lying("keep(2, 0)", x, 2, 4);
        Check.due("keep(2, 1)", x.keep(2, 1), -2);
        Check.lying("keep(2, 1)", x, 0, 3);
        Check.due("keep(4, 0)", x.keep(4, 0), 0);
        Check.lying("keep(4, 0)", x, 0, 1, 2, 3);
        Check.due("keep(5, 0)", x.keep(5, 0), GAP);
        Check.lying("keep(5, 0)", x);
        x.keep(1, 0);
        Check.due("keep(-1, 0)", x.keep(-1, 0), GAP);
        Check.lying("keep(-1, 0)", x);
        x.keep(1, 0);
        Check.due("keep(1, 2)", x.keep(1, 2), GAP);
        Check.lying("keep(1, 2)", x);
        Check.due("keep(1, -1)", x.keep(1, -1), GAP);
        x.leave(0);
        Check.due("as many as it has", x.keep(4, 0), GAP);
        Check.due("one fewer", x.keep(3, 0), 0);
        Check.due("without a row", Check.told(TEXT).keep(0, 0), GAP);
        LostWords long12 = Check.told(TEXT + "row a b a b a b a b a b a b;");
        Check.due("of twelve four", long12.keep(4, 0), 3 + 5 + 5 + 5 + 5 - 2 + 3);
    }

    private static void mean(LostWords x, int n, int upper, int lower) {
        Check.due("mean(" + n + ", 0)", x.mean(n, 0), upper);
        Check.due("mean(" + n + ", 1)", x.mean(n, 1), lower);
    }

    private static void means() {
        LostWords x = Check.told(TEXT + "row b a b a;");
        mean(x, 0, -1, 1);
        // a b a 1, b b a 3, b a a -2, b a b 1.
        mean(x, 1, 3, 4);
        // b a, a a, a b, b a, b b, b a.
        mean(x, 2, 1, 3);
        mean(x, 3, 0, 1);
        mean(x, 4, GAP, GAP);
        mean(x, -1, GAP, GAP);
        Check.due("mean(1, 2)", x.mean(1, 2), GAP);
        Check.due("mean(1, -1)", x.mean(1, -1), GAP);
        LostWords below = Check.told(TEXT + "row b a a;");
        mean(below, 1, -4, 3);
        Check.due("without a row", Check.told(TEXT).mean(0, 0), GAP);
        x.keep(1, 0);
        x.mean(1, 0);
        Check.due("mean lays nothing", x.about(12), 1);
    }

    private static void duels() {
        LostWords x = Check.told(TEXT + "row a b a b c;");
        Check.due("duel(1, 0)", x.duel(1, 0), 8);
        Check.due("duel(1, 1)", x.duel(1, 1), 2);
        // Behind a b b c the other one leaves out a b: 3; 3 is the most that is left so.
        Check.due("duel(2, 0)", x.duel(2, 0), 3);
        Check.due("duel(2, 1)", x.duel(2, 1), 2);
        Check.due("duel(0, 0)", x.duel(0, 0), GAP);
        Check.due("duel(5, 0)", x.duel(5, 0), GAP);
        Check.due("duel(-1, 0)", x.duel(-1, 0), GAP);
        Check.due("duel(1, 2)", x.duel(1, 2), GAP);
        Check.due("duel(1, -1)", x.duel(1, -1), GAP);
        x.leave(4);
        Check.due("all of them", x.duel(4, 0), 0);
        Check.due("of like ones the first", x.duel(4, 1), 0);
        x.leave(0);
        Check.due("more than it has", x.duel(4, 0), GAP);
        Check.due("without a row", Check.told(TEXT).duel(1, 0), GAP);
    }

    private static void ahead() {
        LostWords x = Check.told(TEXT + "row b a c a b; slip b a a b; slip b a c a b; slip b; slip a c a b; "
            + "slip a b;");
        Check.due("becomes(1, 1): now", x.becomes(1, 1), 0);
        Check.due("becomes(1, 0)", x.becomes(1, 0), 1);
        Check.due("becomes(1, 2)", x.becomes(1, 2), 4);
        Check.due("becomes(1, 4)", x.becomes(1, 4), -1);
        Check.due("becomes(2, 3)", x.becomes(2, 3), 1);
        Check.due("becomes(0, 2)", x.becomes(0, 2), 4 * (x.last(0) == 1 ? 1 : 0) - (x.last(0) == 1 ? 0 : 1));
        Check.due("becomes(3, 0)", x.becomes(3, 0), -1);
        Check.due("becomes(-1, 1)", x.becomes(-1, 1), -1);
        Check.due("becomes(1, 5)", x.becomes(1, 5), -1);
        Check.due("becomes(1, -1)", x.becomes(1, -1), -1);
        Check.due("will(1, 0)", x.will(1, 0), -2 + 0 + 1 + 3);
        Check.due("will(1, 1)", x.will(1, 1), -2 + 0 + 3);
        Check.due("will(2, 1)", x.will(2, 1), 0 + 1 + 3);
        Check.due("will(1, 12)", x.will(1, 12), 0);
        Check.due("will(1, 13)", x.will(1, 13), GAP);
        Check.due("will(1, -1)", x.will(1, -1), GAP);
        Check.due("will(3, 1)", x.will(3, 1), GAP);
        Check.due("will(-1, 1)", x.will(-1, 1), GAP);
        Check.due("last(1)", x.last(1), 1);
        Check.due("last(2)", x.last(2), 2);
        Check.due("last(3)", x.last(3), -1);
        Check.due("last(-1)", x.last(-1), -1);
        Check.due("nothing is done", x.about(3) + x.about(4) + x.about(6), 0);
        Check.row("the row stays", x, 1, 0, 2, 0, 1);
        Check.due("last without a row", Check.told(TEXT).last(1), -1);
        Check.due("will without a row", Check.told(TEXT).will(2, 5), 0);
        LostWords twelve = Check.told(TEXT + "row b b b b b b b b b b b a; slip b; slip a;");
        Check.due("behind eleven rounds", twelve.becomes(1, 0), 11);
        Check.due("behind eleven rounds by the other rule", twelve.becomes(2, 1), 11);
        Check.due("will behind eleven", twelve.will(2, 10), -2);
        Check.due("will behind twelve", twelve.will(2, 12), 0);
        int foretold = x.last(0);
        int sense = x.will(0, 3);
        for (int i = 0; i < 3; i++) {
            x.round(0);
        }
        Check.due("will(0, 3)", sense, x.sense(-1));
        x.round(0);
        Check.due("last(0)", foretold, x.word(0));
        Check.due("last of one", x.last(2), foretold);
    }

    private static void marks() {
        LostWords x = Check.told(TEXT + "row b a c b b b; slip c; slip a b;");
        Check.due("mark(-1)", x.mark(-1), (9 + 8 + 6 + 36 + 45 + 54) % 100);
        Check.due("mark(0)", x.mark(0), 2);
        Check.due("mark(1)", x.mark(1), 22);
        Check.due("mark(2)", x.mark(2), -1);
        Check.due("mark(-2)", x.mark(-2), -1);
        Check.due("mark without a row", Check.told(TEXT).mark(-1), 0);
    }

    private static void mending() {
        LostWords x = Check.told("word a worth 1; word b worth 2; word c worth 3; slip b a; slip a a;");
        // b a with one more: aba 8, bba 9, cba 10, baa 7, bba 9 (again), bca 11, bab 10, bac 13 ..
        Check.due("mended(0, 10)", x.mended(0, 10), 2);
        Check.lying("mended(0, 10)", x, 1, 0, 1);
        Check.due("mended(0, 9)", x.mended(0, 9), 1);
        Check.lying("mended(0, 9)", x, 1, 1, 0);
        Check.due("mended(0, 8)", x.mended(0, 8), 1);
        Check.lying("mended(0, 8)", x, 0, 1, 0);
        Check.due("mended(0, 99)", x.mended(0, 99), 0);
        Check.lying("mended(0, 99)", x);
        Check.due("mended(1, 6)", x.mended(1, 6), 1);
        Check.lying("mended(1, 6), one row made in three ways", x, 0, 0, 0);
        Check.due("mended(1, 100)", x.mended(1, 100), -1);
        Check.lying("mended(1, 100)", x);
        x.mended(1, 6);
        Check.due("mended(1, -1)", x.mended(1, -1), -1);
        Check.lying("mended(1, -1)", x);
        Check.due("mended(2, 6)", x.mended(2, 6), -1);
        Check.due("mended(-1, 6)", x.mended(-1, 6), -1);
        LostWords round = Check.told("word a worth 20; word b worth 0; slip a a a a a a a a;");
        // All of worth 20 make 9 * 10 / 2 * 20 = 900: modulo 100 it is 0; b at 4 makes 800, too.
        Check.due("modulo 100", round.mended(0, 0), 2);
        Check.lying("the first by words", round, 0, 0, 0, 0, 0, 0, 0, 0, 0);
    }

    private static void safety() {
        LostWords like = Check.told("word a worth 3; word b worth 3; row a b;");
        Check.due("like worths are not safe", like.safe(), 0);
        LostWords x = Check.told("word a worth 1; word b worth 5; row a a b;");
        Check.due("safe()", x.safe(), 7);
        Check.due("without a row", Check.told(TEXT).safe(), 0);
        LostWords some = Check.told("word a worth 1; word b worth 2; word c worth 3; row b a b;");
        // Without the last, 10 is b a b and c b a; without the first a b mends to 10 by b a b alone.
        Check.due("some places", some.safe() & 4, 0);
        Check.due("the first", some.safe() & 1, 1);
        LostWords one = Check.told("word a worth 5; row a;");
        Check.due("one word", one.safe(), 1);
    }
}
