/** What ==== 3. says of SITTINGS, ==== 4. of HINTS, and promises 38 and 41 to 46, sentence by sentence. */
public final class EdgeSeatsTest {
    private static final int MOST = Integer.MAX_VALUE;
    private static final int LEAST = Integer.MIN_VALUE;
    private static final int[] NO_SLIPS = {3, 5, -1, -2, MOST, LEAST};
    private static final String WORDS = "word a worth 1;word b worth 2;word c worth 3;";

    public static void main(String[] args) {
        sittings();
        manySittings();
        thirty();
        times();
        known();
        places();
        hints();
        untelling();
        later();
        seats();
        sure();
        ask();
        Check.finish();
    }

    /** Three SLIPS that are alike: six SITTINGS. */
    private static LostWords like() {
        return Check.told(WORDS + "slip a;slip a;slip a;");
    }

    /** Two SLIPS, neither of which COMES from the other one. */
    private static LostWords strange() {
        return Check.told(WORDS + "slip a;slip b;");
    }

    private static void sittings() {
        Check.says(0, "SITTING: an order of all SLIPS in which each one but the first COMES from the one directly ahead of it.");
        LostWords x = Check.told(WORDS + "slip b;slip a b c;slip b c;");
        Check.due("a b c, b c, b", x.sittings(), 1);
        Check.lying("a b c, b c, b", x, 1, 2, 0);
        Check.due("all SLIPS: one is strange", Check.told(WORDS + "slip a b;slip a;slip c;").sittings(), 0);
        // b and a both COME from a b, but not from one another: directly ahead counts.
        Check.due("directly ahead", Check.told(WORDS + "slip a b;slip a;slip b;").sittings(), 0);
        Check.due("like ones in both orders", Check.told(WORDS + "slip a b;slip a b;").sittings(), 2);
        Check.due("the ROW has no part in it", Check.told(WORDS + "row c;slip a b;slip a b;").sittings(), 2);
        LostWords one = Check.told(WORDS + "slip c;");
        Check.due("one SLIP", one.sittings(), 1);
        Check.lying("one SLIP", one, 0);
    }

    private static void manySittings() {
        Check.says(38, "SITTINGS: how many (1 without SLIPS).");
        LostWords none = Check.told(WORDS + "row a;");
        Check.due("without SLIPS", none.sittings(), 1);
        Check.lying("without SLIPS", none);
        LostWords five = Check.told(WORDS + "slip a;slip a;slip a;slip a;slip a;");
        Check.due("five alike", five.sittings(), 120);
        Check.due("three alike", like().sittings(), 6);
        LostWords hinted = like();
        hinted.hint(2, 0, true);
        Check.due("HINTS have no part in it", hinted.sittings(), 6);
        Check.says(38, "The first lies there then, SLIP by SLIP as they sat (behind 0: nothing).");
        Check.lying("the first in spite of a HINT", hinted, 0, 1, 2);
        hinted.seats(0);
        Check.due("once more", hinted.sittings(), 6);
        Check.lying("once more", hinted, 0, 1, 2);
        Check.due("two longest", Check.told(WORDS + "slip b;slip a b;slip a;slip a b;").sittings(), 0);
        LostWords x = Check.told(WORDS + "slip b;slip a b;slip b;slip a b;");
        Check.due("two longer, two shorter", x.sittings(), 4);
        Check.lying("the first", x, 1, 3, 0, 2);
        LostWords no = strange();
        no.source(0, 1);
        Check.due("something lies there", no.about(12), 2);
        Check.due("none", no.sittings(), 0);
        Check.lying("none", no);
    }

    private static void thirty() {
        Check.says(0, "==== 4. HINTS, 30 at most,");
        LostWords x = like();
        for (int i = 0; i < 30; i++) {
            Check.due("hint " + i, x.hint(0, 1, true), i);
        }
        Check.due("a thirty-first", x.hint(0, 1, true), -1);
        Check.due("thirty", x.about(8), 30);
        x.later(1);
        for (int i = 0; i < 30; i++) {
            Check.due("untell(" + i + ")", x.untell(i), true);
        }
        Check.due("HINTS that were UNTOLD are HINTS still", x.about(8), 30);
        Check.due("a thirty-first behind that", x.hint(0, 1, true), -1);
        Check.due("they counted before", x.seats(0), 3);
        Check.due("they count no more", x.seats(1), 6);
    }

    private static void times() {
        Check.says(0, "are TOLD at a TIME (0 at first, goes on), UNTOLD at a later one or the same:");
        LostWords x = like();
        Check.due("0 at first", x.about(9), 0);
        x.hint(1, 0, true);
        Check.due("TOLD at 0", x.seats(0), 3);
        x.later(4);
        x.hint(2, 1, true);
        Check.due("TOLD at 4", x.seats(4), 1);
        Check.due("not at 3", x.seats(3), 3);
        x.untell(1);
        Check.due("UNTOLD at the same TIME", x.seats(4), 3);
        Check.due("and later", x.seats(5), 3);
        x.later(3);
        x.untell(0);
        Check.due("UNTOLD at a later one", x.seats(7), 6);
        Check.due("not yet at 6", x.seats(6), 3);
    }

    private static void known() {
        Check.says(0, "As known at k those count that were TOLD at k or before, not UNTOLD at k or before.");
        LostWords x = like();
        x.later(10);
        x.hint(0, 1, true);
        x.later(10);
        x.untell(0);
        x.later(10);
        int[][] want = {{LEAST, 6}, {-1, 6}, {0, 6}, {9, 6}, {10, 3}, {11, 3}, {19, 3}, {20, 6}, {21, 6}, {30, 6},
            {31, 6}, {MOST, 6}};
        for (int[] each : want) {
            Check.due("seats(" + each[0] + ")", x.seats(each[0]), each[1]);
        }
        x.hint(0, 1, true);
        Check.due("TOLD again at 30", x.seats(30), 3);
        Check.due("known in times to come", x.seats(MOST), 3);
        Check.due("not at 29", x.seats(29), 6);
        Check.due("still as it was at 15", x.seats(15), 3);
    }

    private static void places() {
        Check.says(0, "a SLIP sat ahead of another one (somewhere), or behind.");
        LostWords x = like();
        x.hint(2, 0, true);
        // 2 0 1, 2 1 0, 1 2 0: not only directly ahead.
        Check.due("2 ahead of 0", x.seats(0), 3);
        x.hint(1, 2, true);
        Check.due("1 2 0 alone", x.seats(0), 1);
        Check.due("0 at 2", x.sure(0, 0), 2);
        Check.due("1 at 0", x.sure(1, 0), 0);
        LostWords y = like();
        y.hint(2, 0, false);
        Check.due("2 behind 0", y.seats(0), 3);
        y.hint(1, 2, false);
        Check.due("0 2 1 alone", y.seats(0), 1);
        Check.due("0 at 0", y.sure(0, 0), 0);
        Check.due("1 at 2", y.sure(1, 0), 2);
    }

    private static void hints() {
        Check.says(41, "A HINT: its number;");
        LostWords x = like();
        Check.due("the first", x.hint(0, 1, true), 0);
        Check.due("the second", x.hint(2, 1, false), 1);
        Check.due("the same once more", x.hint(0, 1, true), 2);
        x.untell(1);
        Check.due("a number is not given again", x.hint(0, 2, true), 3);
        Check.due("one that speaks against it", x.hint(1, 0, true), 4);
        Check.says(41, "NONE, doing nothing, if one can't be (both alike, too), or there are 30.");
        for (int no : new int[] {4, 5, -1, -2, MOST, LEAST}) {
            Check.nothing("hint(" + no + ", 0, true)", Check::busy, y -> y.hint(no, 0, true), -1);
            Check.nothing("hint(0, " + no + ", false)", Check::busy, y -> y.hint(0, no, false), -1);
            Check.nothing("hint(" + no + ", " + no + ", true)", Check::busy, y -> y.hint(no, no, true), -1);
        }
        for (int slip = 0; slip < 4; slip++) {
            int both = slip;
            Check.nothing("both alike", Check::busy, y -> y.hint(both, both, true), -1);
            Check.nothing("both alike, behind", Check::busy, y -> y.hint(both, both, false), -1);
        }
        Check.nothing("there are 30", EdgeSeatsTest::full, y -> y.hint(1, 0, true), -1);
    }

    private static LostWords full() {
        LostWords x = like();
        for (int i = 0; i < 30; i++) {
            x.hint(0, 1, true);
        }
        return x;
    }

    private static void untelling() {
        Check.says(42, "It is UNTOLD: true;");
        LostWords x = full();
        Check.due("untell(0)", x.untell(0), true);
        Check.due("untell(29)", x.untell(29), true);
        Check.due("the others count still", x.seats(0), 3);
        Check.says(42, "false if it is so already, or there is none such.");
        Check.nothing("untell(0), UNTOLD already", Check::busy, y -> y.untell(0) ? 1 : 0, 0);
        for (int hint : new int[] {2, 30, -1, MOST, LEAST}) {
            Check.nothing("untell(" + hint + ")", Check::busy, y -> y.untell(hint) ? 1 : 0, 0);
        }
        Check.due("untell(0) of none", like().untell(0), false);
        Check.due("untell(30) of 30", x.untell(30), false);
        LostWords once = like();
        once.hint(0, 1, true);
        once.later(5);
        once.untell(0);
        once.later(5);
        Check.due("again later", once.untell(0), false);
        Check.due("it stays UNTOLD at 5", once.seats(5), 6);
        Check.due("and TOLD at 4", once.seats(4), 3);
    }

    private static LostWords late() {
        LostWords x = new LostWords();
        for (int i = 0; i < 100; i++) {
            x.later(i == 0 ? 999 : 1000);
        }
        return x;
    }

    private static void later() {
        Check.says(43, "So much later (0 .. 1000): the TIME;");
        LostWords x = like();
        Check.due("later(0)", x.later(0), 0);
        Check.due("later(1000)", x.later(1000), 1000);
        Check.due("later(1)", x.later(1), 1001);
        Check.due("the TIME", x.about(9), 1001);
        Check.due("up to 99,999", late().about(9), 99999);
        Check.due("up to 100,000", late().later(1), 100000);
        Check.says(43, "NONE, doing nothing, for another number, or if it would be above 100,000.");
        for (int by : new int[] {-1, 1001, MOST, LEAST}) {
            Check.nothing("later(" + by + ")", Check::busy, y -> y.later(by), -1);
        }
        for (int by : new int[] {2, 3, 1000}) {
            LostWords y = late();
            Check.due("later(" + by + ") behind 99,999", y.later(by), -1);
            Check.due("the TIME stays", y.about(9), 99999);
        }
        LostWords end = late();
        end.later(1);
        Check.due("later(1) behind 100,000", end.later(1), -1);
        Check.due("later(0) behind 100,000", end.later(0), 100000);
    }

    private static void seats() {
        Check.says(0, "SEATS: SITTINGS by which all that count are so.");
        LostWords x = like();
        Check.due("without HINTS", x.seats(0), 6);
        x.hint(0, 1, true);
        x.hint(1, 2, true);
        Check.due("by both", x.seats(0), 1);
        x.hint(2, 0, true);
        Check.due("by all three", x.seats(0), 0);
        LostWords chain = Check.told(WORDS + "slip a b;slip a;");
        chain.hint(1, 0, true);
        Check.due("what COMES must be so, too", chain.seats(0), 0);
        Check.says(44, "SEATS: how many.");
        Check.due("seats without SLIPS", Check.told(WORDS).seats(0), 1);
        Check.due("seats without SITTINGS", strange().seats(0), 0);
        LostWords five = Check.told(WORDS + "slip a;slip a;slip a;slip a;slip a;");
        Check.due("five alike", five.seats(0), 120);
        five.hint(4, 0, true);
        Check.due("five alike by one HINT", five.seats(0), 60);
        Check.nothing("seats lays nothing", Check::busy, y -> y.seats(0) >= 0 ? 0 : 1, 0);
    }

    private static void sure() {
        Check.says(0, "SURE of a SLIP: its place, if it is the same in all.");
        LostWords x = Check.told(WORDS + "slip b;slip a b;slip b;");
        Check.due("a b is the first", x.sure(1, 0), 0);
        Check.says(45, "SURE: the place; -2 if it is not the same in all;");
        Check.due("the first b", x.sure(0, 0), -2);
        Check.due("the other b", x.sure(2, 0), -2);
        x.later(5);
        x.hint(2, 0, true);
        Check.due("sure at 5", x.sure(0, 5), 2);
        Check.due("sure at 5, too", x.sure(2, 5), 1);
        Check.due("not at 4", x.sure(0, 4), -2);
        Check.due("one SLIP", Check.told(WORDS + "slip c;").sure(0, 0), 0);
        Check.says(45, "NONE if there are no SEATS, or there is no such SLIP.");
        Check.due("no SITTINGS", strange().sure(0, 0), -1);
        x.hint(0, 2, true);
        Check.due("no SEATS at 5", x.sure(1, 5), -1);
        Check.due("SEATS at 4", x.sure(1, 4), 0);
        for (int no : NO_SLIPS) {
            Check.due("sure(" + no + ", 0)", like().sure(no, 0), -1);
        }
        Check.due("without SLIPS", Check.told(WORDS).sure(0, 0), -1);
    }

    private static void ask() {
        Check.says(0, "ASK: the SLIP of which to hear the place would leave the fewest of these at the most; of like ones the "
            + "first.");
        LostWords x = like();
        Check.due("of like ones the first", x.ask(0, 0), 0);
        Check.due("two at the most", x.ask(1, 0), 2);
        x.hint(0, 1, true);
        // 0 1 2, 0 2 1, 2 0 1: SLIP 0 leaves two at the most, 1 two, 2 one.
        Check.due("the one that leaves fewest", x.ask(0, 0), 2);
        Check.due("one at the most", x.ask(1, 0), 1);
        LostWords later = Check.told(WORDS + "slip b;slip a b;slip b;");
        Check.due("not the one that is sure", later.ask(0, 0), 0);
        LostWords second = Check.told(WORDS + "slip a b;slip b;slip b;");
        Check.due("the second, as the first is sure", second.ask(0, 0), 1);
        Check.says(46, "ASK what 0: the SLIP, 1: how many are left at the most;");
        Check.due("ask(1)", second.ask(1, 0), 1);
        LostWords five = Check.told(WORDS + "slip a;slip a;slip a;slip a;slip a;");
        Check.due("five alike", five.ask(0, 0), 0);
        Check.due("24 at the most", five.ask(1, 0), 24);
        LostWords one = Check.told(WORDS + "slip c;");
        Check.due("one SLIP", one.ask(0, 0), 0);
        Check.due("one at the most", one.ask(1, 0), 1);
        Check.due("as known before the HINT", x.ask(0, -1) * 10 + x.ask(1, -1), 2);
        Check.says(46, "NONE if there are no SEATS, no SLIPS, or for another what.");
        Check.due("no SITTINGS", strange().ask(0, 0), -1);
        Check.due("no SITTINGS", strange().ask(1, 0), -1);
        x.hint(1, 0, true);
        Check.due("no SEATS", x.ask(0, 0), -1);
        Check.due("no SEATS", x.ask(1, 0), -1);
        Check.due("no SLIPS", Check.told(WORDS).ask(0, 0), -1);
        Check.due("no SLIPS", Check.told(WORDS).ask(1, 0), -1);
        for (int what : new int[] {2, -1, MOST, LEAST}) {
            Check.due("ask(" + what + ", 0)", five.ask(what, 0), -1);
        }
    }
}
