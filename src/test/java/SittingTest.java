/** Promises 38 and 41 to 46: SITTINGS, HINTS, SEATS, SURE, ASK. */
public final class SittingTest {
    private static final String WORDS = "word a worth 1; word b worth 2; word c worth 3; ";

    public static void main(String[] args) {
        sittings();
        hints();
        times();
        asking();
        Check.finish();
    }

    private static void sittings() {
        LostWords none = Check.told(WORDS);
        Check.due("sittings() without slips", none.sittings(), 1);
        Check.lying("sittings() without slips", none);
        Check.due("seats(0) without slips", none.seats(0), 1);
        Check.due("sure(0, 0) without slips", none.sure(0, 0), -1);
        Check.due("ask(0, 0) without slips", none.ask(0, 0), -1);
        Check.due("ask(1, 0) without slips", none.ask(1, 0), -1);
        LostWords one = Check.told(WORDS + "slip a b;");
        Check.due("one slip", one.sittings(), 1);
        Check.lying("one slip", one, 0);
        LostWords chain = Check.told(WORDS + "slip b; slip a b c; slip b c;");
        Check.due("a chain", chain.sittings(), 1);
        Check.lying("a chain", chain, 1, 2, 0);
        LostWords no = Check.told(WORDS + "slip a; slip b;");
        no.source(0, 1);
        Check.due("no sitting", no.sittings(), 0);
        Check.lying("no sitting", no);
        Check.due("no seats", no.seats(0), 0);
        Check.due("sure without seats", no.sure(0, 0), -1);
        Check.due("ask without seats", no.ask(0, 0), -1);
        LostWords like = Check.told(WORDS + "slip a; slip a; slip a; slip a; slip a;");
        Check.due("all orders", like.sittings(), 120);
        Check.lying("all orders", like, 0, 1, 2, 3, 4);
        like.hint(4, 0, true);
        Check.due("sittings() in spite of hints", like.sittings(), 120);
        Check.lying("sittings() in spite of hints", like, 0, 1, 2, 3, 4);
        Check.due("seats by hints", like.seats(0), 60);
    }

    private static void hints() {
        LostWords x = Check.told(WORDS + "slip a; slip a; slip a;");
        Check.due("hint(0, 0, true)", x.hint(0, 0, true), -1);
        Check.due("hint(3, 0, true)", x.hint(3, 0, true), -1);
        Check.due("hint(0, 3, true)", x.hint(0, 3, true), -1);
        Check.due("hint(-1, 0, true)", x.hint(-1, 0, true), -1);
        Check.due("hint(0, -1, false)", x.hint(0, -1, false), -1);
        Check.due("none so far", x.about(8), 0);
        Check.due("hint(2, 0, true)", x.hint(2, 0, true), 0);
        Check.due("seats(0)", x.seats(0), 3);
        Check.due("hint(0, 1, false)", x.hint(0, 1, false), 1);
        Check.due("2 and 1 are ahead of 0", x.seats(0), 2);
        Check.due("sure(0, 0)", x.sure(0, 0), 2);
        Check.due("sure(1, 0)", x.sure(1, 0), -2);
        Check.due("sure(3, 0)", x.sure(3, 0), -1);
        Check.due("sure(-1, 0)", x.sure(-1, 0), -1);
        Check.due("the same hint again", x.hint(2, 0, true), 2);
        Check.due("seats stay", x.seats(0), 2);
        Check.due("one against it", x.hint(0, 2, true), 3);
        Check.due("no seats", x.seats(0), 0);
        Check.due("sure without seats", x.sure(0, 0), -1);
        Check.due("untell(3)", x.untell(3), true);
        Check.due("untell(3) again", x.untell(3), false);
        Check.due("untell(4)", x.untell(4), false);
        Check.due("untell(-1)", x.untell(-1), false);
        Check.due("seats again", x.seats(0), 2);
        for (int i = 4; i < 30; i++) {
            Check.due("hint " + i, x.hint(2, 0, true), i);
        }
        Check.due("hint 30", x.hint(2, 0, true), -1);
        Check.due("seats by 30 hints", x.seats(0), 2);
        Check.due("hints", x.about(8), 30);
        x.untell(5);
        Check.due("an untold one is a hint still", x.hint(2, 0, true), -1);
    }

    private static void times() {
        LostWords x = Check.told(WORDS + "slip a; slip a; slip a;");
        Check.due("later(-1)", x.later(-1), -1);
        Check.due("later(1001)", x.later(1001), -1);
        Check.due("later(0)", x.later(0), 0);
        Check.due("later(10)", x.later(10), 10);
        x.hint(1, 0, true);
        x.later(5);
        x.hint(2, 1, true);
        x.later(5);
        x.untell(0);
        Check.due("seats(9)", x.seats(9), 6);
        Check.due("seats(10)", x.seats(10), 3);
        Check.due("seats(14)", x.seats(14), 3);
        Check.due("seats(15)", x.seats(15), 1);
        Check.due("seats(19)", x.seats(19), 1);
        Check.due("seats(20)", x.seats(20), 3);
        Check.due("seats(MAX)", x.seats(Integer.MAX_VALUE), 3);
        Check.due("seats(-1)", x.seats(-1), 6);
        Check.due("seats(MIN)", x.seats(Integer.MIN_VALUE), 6);
        Check.due("sure(2, 15)", x.sure(2, 15), 0);
        Check.due("sure(2, 14)", x.sure(2, 14), -2);
        for (int i = 0; i < 99; i++) {
            x.later(1000);
        }
        Check.due("the time", x.about(9), 99020);
        Check.due("later(981)", x.later(981), -1);
        Check.due("later(980)", x.later(980), 100000);
        Check.due("later(1)", x.later(1), -1);
        Check.due("later(0) at the end", x.later(0), 100000);
    }

    private static void asking() {
        LostWords x = Check.told(WORDS + "slip a; slip a; slip a;");
        Check.due("ask(0, 0) of like ones", x.ask(0, 0), 0);
        Check.due("ask(1, 0)", x.ask(1, 0), 2);
        Check.due("ask(2, 0)", x.ask(2, 0), -1);
        Check.due("ask(-1, 0)", x.ask(-1, 0), -1);
        x.hint(0, 1, true);
        // 0 1 2, 0 2 1, 2 0 1: slip 0 at 0 twice, 1 at 2 twice, 2 at each place once.
        Check.due("ask(0, 0)", x.ask(0, 0), 2);
        Check.due("ask(1, 0)", x.ask(1, 0), 1);
        Check.due("ask(0, -1): before the hint", x.ask(0, -1), 0);
        x.source(0, 1);
        x.ask(0, 0);
        x.seats(0);
        x.sure(0, 0);
        Check.lying("asking lays nothing", x, 0);
    }
}
