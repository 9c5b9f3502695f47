/** Promises 1 to 5, 40 and 49, sentence by sentence. */
public final class EdgeTapeTest {
    private static final int BLANKS = 0x20202020;
    private static final String TEXT = "word a worth 3;word b worth 5;beside a b 4;row a b a;slip a b;slip b;slip b;"
        + "miss worth+left;draw 7;";

    public static void main(String[] args) {
        newObject();
        feeding();
        fullTape();
        ending();
        tables();
        tableAnew();
        timeStays();
        faulty();
        faults();
        lying();
        about();
        aboutActs();
        Check.finish();
    }

    private static void newObject() {
        Check.says(1, "An empty TABLE.");
        LostWords x = new LostWords();
        for (int what = 0; what <= 12; what++) {
            Check.due("about(" + what + ")", x.about(what), 0);
        }
        Check.due("size(-1)", x.size(-1), 0);
        Check.due("size(0)", x.size(0), -1);
        Check.due("worth(0)", x.worth(0), -1);
        Check.due("undo()", x.undo(), false);
        Check.due("redo()", x.redo(), false);
        Check.due("back(0)", x.back(0), -1);
        Check.due("untell(0)", x.untell(0), false);
        Check.due("lies(0)", x.lies(0), -1);
        Check.due("round(0)", x.round(0), -1);
        Check.due("the seed is 0 still", x.about(4), 0);
    }

    private static void feeding() {
        Check.says(2, "Twenty bytes come behind those on the TAPE, of each number the highest first: how many there are;");
        LostWords x = new LostWords();
        // "draw", " 123", ";   ", blanks: the order of bytes within a number, of numbers within a call.
        Check.due("feed", x.feed(0x64726177, 0x20313233, 0x3b202020, BLANKS, BLANKS), 20);
        Check.due("feed", x.feed(0x776f7264, 0x20612077, 0x6f727468, 0x20313939, 0x20202020), 40);
        Check.due("about(10)", x.about(10), 40);
        Check.due("the first came first, the fault in the second", x.table(), -1);
        Check.due("fault(0)", x.fault(0), 4);
        Check.due("fault(1)", x.fault(1), 33);
        Check.due("end(20)", x.end(20), 20);
        Check.due("table()", x.table(), 0);
        Check.due("draw 123", x.about(4), 123);
        // A byte above 127 is one, too, and its number stays below 0 with no harm to the others.
        Check.due("feed", x.feed(0x64726177, 0x20343b0a, 0xff202020, -1, 0x80000000), 20);
        Check.due("table()", x.table(), -1);
        Check.due("fault(1)", x.fault(1), 8);
        x.end(8);
        Check.due("table()", x.table(), 0);
        Check.due("draw 4", x.about(4), 4);
    }

    private static LostWords tape(int bytes) {
        LostWords x = new LostWords();
        for (int i = 0; i < bytes; i += 20) {
            x.feed(BLANKS, BLANKS, BLANKS, BLANKS, BLANKS);
        }
        x.end(bytes);
        return x;
    }

    private static void fullTape() {
        Check.says(2, "NONE, and nothing comes, if there would be more than 1,600.");
        Check.due("up to 1600", tape(1580).feed(BLANKS, BLANKS, BLANKS, BLANKS, BLANKS), 1600);
        for (int bytes : new int[] {1581, 1590, 1599, 1600}) {
            LostWords x = tape(bytes);
            Check.due("bytes", x.about(10), bytes);
            Check.due("feed behind " + bytes, x.feed(-1, -1, -1, -1, -1), -1);
            Check.due("nothing comes behind " + bytes, x.about(10), bytes);
            Check.due("blanks alone still", x.table(), 0);
        }
    }

    private static void ending() {
        Check.says(3, "The TAPE has its first n bytes: n;");
        LostWords x = tape(40);
        Check.due("end(40)", x.end(40), 40);
        Check.due("end(39)", x.end(39), 39);
        Check.due("about(10)", x.about(10), 39);
        Check.due("end(0)", x.end(0), 0);
        Check.due("about(10)", x.about(10), 0);
        Check.due("end(0) of nothing", x.end(0), 0);
        Check.due("end(1600)", tape(1600).end(1600), 1600);
        Check.feed(x, "draw 5;draw 6;");
        Check.due("end(7)", x.end(7), 7);
        Check.feed(x, " ");
        Check.due("what was cut is gone", x.table(), 0);
        Check.says(3, "NONE, doing nothing, if it has not so many, or n is below 0.");
        Check.due("end(1) of nothing", new LostWords().end(1), -1);
        Check.due("end(1601)", tape(1600).end(1601), -1);
        int bytes = Check.busy().about(10);
        Check.nothing("end of one too many", Check::busy, y -> y.end(bytes + 1), -1);
        Check.nothing("end(MAX)", Check::busy, y -> y.end(Integer.MAX_VALUE), -1);
        Check.nothing("end(-1)", Check::busy, y -> y.end(-1), -1);
        Check.nothing("end(MIN)", Check::busy, y -> y.end(Integer.MIN_VALUE), -1);
    }

    private static void tables() {
        Check.says(4, "The TAPE (empty then) is the TABLE");
        LostWords x = Check.told(TEXT);
        Check.due("empty then", x.about(10), 0);
        Check.due("no byte is left", x.end(1), -1);
        Check.due("words", x.about(1), 2);
        Check.due("besides", x.about(5), 1);
        Check.due("units", x.about(11), 2);
        Check.due("an empty TAPE is an empty TABLE", x.table(), 0);
        Check.due("no words", x.about(1), 0);
        Check.due("no besides", x.about(5), 0);
        Check.due("no units", x.about(11), 0);
        Check.due("no slips", x.about(0), 0);
        Check.due("no row", x.about(2), 0);
        Check.due("no seed", x.about(4), 0);
        older();
        longer();
        Check.says(4, "how many SLIPS;");
        for (int slips = 0; slips <= 5; slips++) {
            LostWords y = new LostWords();
            Check.feed(y, "word a worth 1;" + "slip a;".repeat(slips));
            Check.due("table()", y.table(), slips);
        }
    }

    /** Nothing of the TABLE before the last one is in a TABLE. */
    private static void older() {
        LostWords x = Check.told(TEXT);
        for (int table = 0; table < 3; table++) {
            Check.feed(x, "word c worth 9;word d worth 8;");
            x.table();
            Check.due("an older beside", x.beside(0, 1), 0);
            Check.due("older besides", x.about(5), 0);
            Check.due("an older draw", x.about(4), 0);
            Check.due("an older row", x.about(2), 0);
            Check.due("older units", x.about(11), 0);
            x.put(0, 1);
            Check.due("an older miss", x.miss(0), 8);
            Check.feed(x, "word c worth 9;word d worth 8;slip c;slip d;row d;miss worth*2;");
            Check.due("table()", x.table(), 2);
            Check.due("an older slip", x.size(0), 1);
            Check.due("older slips that came", x.comes(0), 1);
            Check.due("a newer miss", x.miss(0), 16);
            Check.feed(x, TEXT);
            Check.due("TEXT again", x.table(), 3);
            Check.due("its first slip", x.size(0), 2);
            Check.due("its miss", x.miss(1), 9);
            Check.due("its units", x.about(11), 2);
        }
    }

    /** However often a long miss was told, the last one counts. */
    private static void longer() {
        LostWords x = new LostWords();
        for (int table = 0; table < 30; table++) {
            Check.feed(x, "word a worth 0;row a;miss " + "1+".repeat(29) + table + ";");
            x.table();
            Check.due("miss(0) of TABLE " + table, x.miss(0), 29 + table);
        }
    }

    private static void tableAnew() {
        Check.says(4, "(the ROW as told, round 0, no ACTS are kept, HINTS are none, nothing lies there, BOXES are empty then;");
        LostWords x = Check.busy();
        x.image(0);
        x.end(0);
        Check.feed(x, TEXT);
        Check.due("acts before", x.about(6) * 10 + x.about(7), 31);
        Check.due("hints before", x.about(8), 2);
        Check.due("something lies there before", x.about(12) > 0, true);
        Check.due("table()", x.table(), 3);
        Check.row("the row as told", x, 0, 1, 0);
        Check.due("round 0", x.about(3), 0);
        Check.due("the seed as told", x.about(4), 7);
        Check.due("no acts", x.about(6), 0);
        Check.due("none undone", x.about(7), 0);
        Check.due("undo()", x.undo(), false);
        Check.due("redo()", x.redo(), false);
        Check.due("no hints", x.about(8), 0);
        Check.due("untell(1)", x.untell(1), false);
        Check.due("seats by none", x.seats(x.about(9)), x.sittings());
        x.table();
        Check.due("nothing lies there", x.about(12), 0);
        Check.due("lies(0)", x.lies(0), -1);
        for (int box = 0; box < 3; box++) {
            Check.due("a box is empty", x.back(box), -1);
        }
        Check.due("the next hint is the first", told(x).hint(0, 1, true), 0);
        LostWords hinted = Check.told(TEXT);
        for (int i = 0; i < 30; i++) {
            hinted.hint(1, 0, true);
        }
        Check.due("no seats by these", hinted.seats(0), 0);
        told(hinted);
        Check.due("none of these counts", hinted.seats(0), 2);
        hinted.hint(1, 2, true);
        Check.due("one that is told then", hinted.seats(0), 1);
    }

    private static LostWords told(LostWords x) {
        Check.feed(x, TEXT);
        x.table();
        return x;
    }

    private static void timeStays() {
        Check.says(4, "the TIME stays):");
        LostWords x = new LostWords();
        x.later(12);
        told(x);
        Check.due("the time", x.about(9), 12);
        x.hint(1, 2, true);
        Check.due("told at 12, not at 11", x.seats(11), 2);
        Check.due("told at 12", x.seats(12), 1);
    }

    private static void faulty() {
        Check.says(4, "NONE: a FAULT (all stays).");
        Check.nothing("table() again with the same fault", Check::busy, LostWords::table, -1);
        LostWords x = Check.told(TEXT);
        x.round(1);
        Check.feed(x, "word z worth 9;beside z z 9;row z;slip z;miss 1;draw 5;#");
        int bytes = x.about(10);
        Check.due("table()", x.table(), -1);
        Check.due("the TAPE stays", x.about(10), bytes);
        Check.due("words stay", x.about(1), 2);
        Check.due("a worth stays", x.worth(0), 3);
        Check.due("besides stay", x.beside(0, 1) * 10 + x.beside(0, 0), 40);
        Check.due("slips stay", x.about(0) * 10 + x.size(0), 32);
        Check.due("the round stays", x.about(3), 1);
        Check.due("the seed stays", x.about(4), 7);
        Check.due("units stay", x.about(11), 2);
        Check.row("the row stays", x, 1, 0);
        Check.due("miss stays", x.miss(0), 5);
        Check.due("what comes from what stays", x.comes(0), 7);
        Check.due("the TAPE can be mended", x.end(bytes - 1), bytes - 1);
        Check.due("and is a TABLE then", x.table(), 1);
        Check.due("with its word", x.worth(0), 9);
    }

    private static void faults() {
        Check.says(5, "Of the latest table() what 0: its FAULT (0), 1: its place (NONE).");
        LostWords x = new LostWords();
        Check.due("fault(0) without a table()", x.fault(0), 0);
        Check.due("fault(1) without a table()", x.fault(1), -1);
        Check.feed(x, "draw 1000;");
        Check.due("fault(0) is not known before table()", x.fault(0), 0);
        x.table();
        Check.due("fault(0)", x.fault(0), 4);
        Check.due("fault(1)", x.fault(1), 5);
        x.end(8);
        Check.due("fault(0) stays till the next table()", x.fault(0), 4);
        Check.due("fault(1) stays till the next table()", x.fault(1), 5);
        x.table();
        Check.due("another FAULT", x.fault(0), 2);
        Check.due("another place", x.fault(1), 8);
        x.end(7);
        Check.feed(x, ";");
        x.table();
        Check.due("fault(0) of none", x.fault(0), 0);
        Check.due("fault(1) of none", x.fault(1), -1);
        Check.feed(x, "#");
        x.table();
        Check.due("fault(0) 1", x.fault(0), 1);
        Check.due("a place of 0", x.fault(1), 0);
        Check.says(5, "NONE for another what.");
        Check.due("fault(2)", x.fault(2), -1);
        Check.due("fault(-1)", x.fault(-1), -1);
        Check.due("fault(MAX)", x.fault(Integer.MAX_VALUE), -1);
        Check.due("fault(MIN)", x.fault(Integer.MIN_VALUE), -1);
    }

    private static void lying() {
        Check.says(40, "The i-th number of what lies there;");
        LostWords x = Check.told(TEXT);
        x.source(0, 1);
        Check.due("lies(0)", x.lies(0), 0);
        Check.due("lies(1)", x.lies(1), 1);
        Check.says(40, "NONE if there is none such.");
        Check.due("lies(2)", x.lies(2), -1);
        Check.due("lies(-1)", x.lies(-1), -1);
        Check.due("lies(24)", x.lies(24), -1);
        Check.due("lies(MAX)", x.lies(Integer.MAX_VALUE), -1);
        Check.due("lies(MIN)", x.lies(Integer.MIN_VALUE), -1);
        x.source(1, 1);
        Check.due("what was longer is gone", x.lies(1), -1);
    }

    private static void about() {
        LostWords x = Check.told(TEXT);
        x.later(6);
        x.hint(0, 1, true);
        x.hint(0, 2, true);
        x.untell(0);
        Check.feed(x, "abc");
        Check.says(49, "What 0: SLIPS,");
        Check.due("about(0)", x.about(0), 3);
        Check.says(49, "1: WORDS,");
        Check.due("about(1)", x.about(1), 2);
        Check.says(49, "5: besides,");
        Check.due("about(5)", x.about(5), 1);
        Check.says(49, "8: HINTS,");
        Check.due("about(8), one of them UNTOLD", x.about(8), 2);
        Check.says(49, "9: the TIME,");
        Check.due("about(9)", x.about(9), 6);
        Check.says(49, "10: bytes on the TAPE,");
        Check.due("about(10)", x.about(10), 3);
        Check.says(49, "11: units,");
        Check.due("about(11)", x.about(11), 2);
        Check.due("about(11) without miss", Check.told("draw 5;").about(11), 0);
        Check.says(49, "12: numbers that lie there.");
        x.source(0, 1);
        Check.due("about(12)", x.about(12), 2);
        x.source(1, 3);
        Check.due("about(12) of nothing", x.about(12), 0);
        Check.says(49, "NONE for another what.");
        Check.due("about(13)", x.about(13), -1);
        Check.due("about(-1)", x.about(-1), -1);
        Check.due("about(MAX)", x.about(Integer.MAX_VALUE), -1);
        Check.due("about(MIN)", x.about(Integer.MIN_VALUE), -1);
    }

    private static void aboutActs() {
        LostWords x = Check.told(TEXT);
        x.round(0);
        x.put(0, 0);
        x.put(0, 0);
        x.undo();
        Check.says(49, "2: how many the ROW at the table has,");
        Check.due("about(2)", x.about(2), 3);
        Check.says(49, "3: the round,");
        Check.due("about(3)", x.about(3), 1);
        Check.says(49, "4: the SEED,");
        Check.due("about(4)", x.about(4), (7 * 137 + 71) % 1000);
        Check.says(49, "6: ACTS that can be undone,");
        Check.due("about(6)", x.about(6), 2);
        Check.says(49, "7: redone,");
        Check.due("about(7)", x.about(7), 1);
    }
}
