/** What ==== 2. says of ACTS, and promises 15 to 20, 47 and 48, sentence by sentence. */
public final class EdgeActsTest {
    private static final int MOST = Integer.MAX_VALUE;
    private static final int LEAST = Integer.MIN_VALUE;
    private static final String TEXT = "word a worth 4;word b worth 9;word c worth 2;";

    public static void main(String[] args) {
        start();
        draws();
        byMiss();
        rounds();
        refusedRounds();
        leaving();
        putting();
        changing();
        undoing();
        redoing();
        forty();
        undoneOfForty();
        images();
        backs();
        Check.finish();
    }

    private static void start() {
        Check.says(0, "The ROW at the table is as told (none, if not), round 0.");
        LostWords x = Check.told(TEXT + "row c a;slip b;");
        Check.row("as told", x, 2, 0);
        Check.due("round 0", x.about(3), 0);
        LostWords none = Check.told(TEXT + "slip b;");
        Check.row("none", none);
        Check.due("round 0", none.about(3), 0);
        Check.due("a WORD can be put in still", none.put(0, 1), 1);
    }

    private static void draws() {
        Check.says(0, "ACTS: a ROUND by a RULE: 0: the SEED (draw, at first) becomes its 137-fold and 71 more, modulo "
            + "1,000, the WORD at its rest by size is left out;");
        for (int seed : new int[] {0, 1, 7, 499, 500, 998, 999}) {
            for (int size = 1; size <= 12; size++) {
                LostWords x = Check.told(TEXT + "draw " + seed + ";row" + " a b c".repeat(4).substring(0, 2 * size) + ";");
                int next = (seed * 137 + 71) % 1000;
                Check.due("the SEED at first", x.about(4), seed);
                Check.due("round(0) of " + size + " by " + seed, x.round(0), next % size % 3);
                Check.due("the SEED then", x.about(4), next);
                Check.due("one fewer", x.about(2), size - 1);
            }
        }
        LostWords place = Check.told(TEXT + "draw 7;row a a a b;");
        // 7 * 137 + 71 = 1030: 30, by 4 a rest of 2.
        place.round(0);
        Check.row("PLACE 2 is left out", place, 0, 0, 1);
    }

    private static void byMiss() {
        Check.says(0, "1: the one of the least MISS; 2: of the greatest (of like ones the first);");
        LostWords least = Check.told(TEXT + "row b a c a c b;draw 5;");
        Check.due("round(1)", least.round(1), 2);
        Check.row("the first c is gone", least, 1, 0, 0, 2, 1);
        Check.due("the SEED stays", least.about(4), 5);
        LostWords greatest = Check.told(TEXT + "row a b c a b;draw 5;");
        Check.due("round(2)", greatest.round(2), 1);
        Check.row("the first b is gone", greatest, 0, 2, 0, 1);
        Check.due("the SEED stays", greatest.about(4), 5);
        LostWords like = Check.told(TEXT + "row a b c;miss 3;");
        Check.due("of like ones the first, least", like.round(1), 0);
        Check.due("of like ones the first, greatest", like.round(2), 1);
        LostWords anew = Check.told(TEXT + "row a b c a;miss times*10+place;");
        Check.due("by MISS of the ROW now", anew.round(2), 0);
        Check.due("a is there once then", anew.round(2), 2);
        Check.row("what is left", anew, 0, 1);
    }

    private static void rounds() {
        Check.says(0, "the round goes up by 1;");
        LostWords x = Check.told(TEXT + "row a b c a b c;");
        for (int i = 1; i <= 6; i++) {
            x.round(i % 3);
            Check.due("the round", x.about(3), i);
        }
        Check.says(15, "A ROUND by a RULE 0 .. 2: the WORD that is left out;");
        LostWords rules = Check.told(TEXT + "row a b c a;draw 7;");
        Check.due("round(0)", rules.round(0), 2);
        Check.due("round(1)", rules.round(1), 0);
        Check.due("round(2)", rules.round(2), 1);
        Check.says(15, "(An ACT.)");
        Check.due("three ACTS", rules.about(6), 3);
        Check.due("undo()", rules.undo(), true);
        Check.row("as behind two", rules, 1, 0);
        Check.due("the round as behind two", rules.about(3), 2);
        rules.undo();
        Check.due("undo()", rules.undo(), true);
        Check.due("the SEED as told", rules.about(4), 7);
        Check.due("the round as told", rules.about(3), 0);
        Check.due("redo()", rules.redo(), true);
        Check.due("the SEED again", rules.about(4), 30);
    }

    private static LostWords gone() {
        LostWords x = Check.told(TEXT + "row a b;draw 7;");
        x.round(0);
        x.round(0);
        return x;
    }

    private static void refusedRounds() {
        Check.says(15, "NONE, doing nothing, if there is no WORD, for another RULE, or behind 999 of them.");
        for (int rule = 0; rule <= 2; rule++) {
            int by = rule;
            Check.nothing("round(" + rule + ") of no WORD", EdgeActsTest::gone, x -> x.round(by), -1);
            Check.nothing("round(" + rule + ") of no ROW", () -> Check.told(TEXT), x -> x.round(by), -1);
        }
        for (int rule : new int[] {3, -1, MOST, LEAST}) {
            Check.nothing("round(" + rule + ")", Check::busy, x -> x.round(rule), -1);
        }
        // 999 of them are more than 512 calls can make: as many as can be are done here.
        LostWords many = Check.told(TEXT);
        for (int i = 1; i <= 240; i++) {
            many.put(0, i % 3);
            Check.due("round " + i, many.round(i % 3), i % 3);
        }
        Check.due("the round", many.about(3), 240);
    }

    private static void leaving() {
        Check.says(0, "a WORD is left out;");
        LostWords x = Check.told(TEXT + "row c a b;draw 7;");
        x.leave(1);
        Check.row("left out", x, 2, 1);
        Check.says(16, "The WORD at a PLACE is left out: which;");
        Check.due("leave(1)", x.leave(1), 1);
        Check.due("leave(0)", x.leave(0), 2);
        Check.row("nothing is left", x);
        Check.due("the round stays", x.about(3), 0);
        Check.due("the SEED stays", x.about(4), 7);
        Check.says(16, "NONE, doing nothing, if there is none.");
        for (int place : new int[] {-1, Check.busy().size(-1), 12, MOST, LEAST}) {
            Check.nothing("leave(" + place + ")", Check::busy, y -> y.leave(place), -1);
        }
        Check.nothing("leave(0) of no WORD", EdgeActsTest::gone, y -> y.leave(0), -1);
        Check.says(16, "(An ACT.)");
        Check.due("three ACTS", x.about(6), 3);
        Check.due("undo()", x.undo(), true);
        Check.row("taken back", x, 2);
        Check.due("redo()", x.redo(), true);
        Check.row("done again", x);
    }

    private static void putting() {
        Check.says(0, "one is put in (12 at most);");
        LostWords x = Check.told(TEXT + "row a b;");
        for (int i = 3; i <= 12; i++) {
            Check.due("put up to 12", x.put(1, 2), i);
        }
        Check.due("a thirteenth", x.put(1, 2), -1);
        Check.row("twelve", x, 0, 2, 2, 2, 2, 2, 2, 2, 2, 2, 2, 1);
        Check.says(17, "A WORD is put in ahead of a PLACE (0 .. how many there are): how many there are then;");
        LostWords y = Check.told(TEXT + "row a b;");
        Check.due("put(0, 2)", y.put(0, 2), 3);
        Check.due("put(3, 0)", y.put(3, 0), 4);
        Check.due("put(2, 1)", y.put(2, 1), 5);
        Check.row("put in", y, 2, 0, 1, 1, 0);
        Check.due("the round stays", y.about(3), 0);
        Check.says(17, "NONE, doing nothing, if there are 12, or one can't be.");
        for (int place : new int[] {0, 6, 11, 12, 13}) {
            Check.nothing("put(" + place + ", 0) of twelve", EdgeActsTest::full, z -> z.put(place, 0), -1);
        }
        for (int place : new int[] {-1, Check.busy().size(-1) + 1, MOST, LEAST}) {
            Check.nothing("put(" + place + ", 0)", Check::busy, z -> z.put(place, 0), -1);
        }
        for (int word : new int[] {-1, 3, 9, MOST, LEAST}) {
            Check.nothing("put(0, " + word + ")", Check::busy, z -> z.put(0, word), -1);
        }
        Check.says(17, "(An ACT.)");
        Check.due("three ACTS", y.about(6), 3);
        Check.due("undo()", y.undo(), true);
        Check.row("taken back", y, 2, 0, 1, 0);
        Check.due("redo()", y.redo(), true);
        Check.row("done again", y, 2, 0, 1, 1, 0);
    }

    private static LostWords full() {
        return Check.told(TEXT + "row a b c a b c a b c a b c;");
    }

    private static void changing() {
        Check.says(0, "one is changed.");
        LostWords x = Check.told(TEXT + "row a b c;");
        x.change(2, 0);
        Check.row("changed", x, 0, 1, 0);
        Check.says(18, "The WORD at a PLACE is changed: which it was;");
        Check.due("change(1, 2)", x.change(1, 2), 1);
        Check.due("change(0, 1)", x.change(0, 1), 0);
        Check.row("changed", x, 1, 2, 0);
        Check.due("the round stays", x.about(3), 0);
        Check.due("a WORD of twelve", full().change(11, 0), 2);
        Check.says(18, "NONE, doing nothing, if it is the same, or one can't be.");
        for (int place = 0; place < 3; place++) {
            int at = place;
            Check.nothing("change to the same at " + place, Check::busy, y -> y.change(at, y.word(at)), -1);
        }
        for (int place : new int[] {-1, Check.busy().size(-1), 12, MOST, LEAST}) {
            Check.nothing("change(" + place + ", 0)", Check::busy, y -> y.change(place, 0), -1);
        }
        for (int word : new int[] {-1, 3, 9, MOST, LEAST}) {
            Check.nothing("change(0, " + word + ")", Check::busy, y -> y.change(0, word), -1);
        }
        Check.nothing("change(-1, -1)", Check::busy, y -> y.change(-1, -1), -1);
        Check.says(18, "(An ACT.)");
        Check.due("three ACTS", x.about(6), 3);
        Check.due("undo()", x.undo(), true);
        Check.row("taken back", x, 0, 2, 0);
        Check.due("redo()", x.redo(), true);
        Check.row("done again", x, 1, 2, 0);
    }

    private static void undoing() {
        Check.says(0, "UNDO takes back the latest ACT that was not,");
        LostWords x = Check.told(TEXT + "row a b c;");
        x.leave(0);
        x.put(0, 2);
        x.change(0, 1);
        x.undo();
        Check.row("the change is taken back", x, 2, 1, 2);
        x.undo();
        Check.row("what was put in is gone", x, 1, 2);
        x.undo();
        Check.row("what was left out is there", x, 0, 1, 2);
        Check.says(19, "UNDO: true;");
        x.round(1);
        Check.due("undo()", x.undo(), true);
        Check.row("as before", x, 0, 1, 2);
        Check.says(19, "false if there is none.");
        Check.nothing("undo() of none", () -> Check.told(TEXT + "row a;"), y -> y.undo() ? 1 : 0, 0);
        Check.nothing("undo() of all taken back", EdgeActsTest::takenBack, y -> y.undo() ? 1 : 0, 0);
    }

    private static LostWords takenBack() {
        LostWords x = Check.told(TEXT + "row a b c;");
        x.leave(0);
        x.put(0, 2);
        x.undo();
        x.undo();
        return x;
    }

    private static void redoing() {
        Check.says(0, "REDO does that again which was taken back last (till another ACT);");
        LostWords x = takenBack();
        x.redo();
        Check.row("left out again", x, 1, 2);
        x.redo();
        Check.row("put in again", x, 2, 1, 2);
        for (int act = 0; act < 4; act++) {
            LostWords y = takenBack();
            y.redo();
            int done = act == 0 ? y.round(1) : act == 1 ? y.leave(0) : act == 2 ? y.put(0, 0) : y.change(0, 0);
            Check.due("another ACT", done != -1, true);
            Check.due("redo() behind it", y.redo(), false);
            Check.due("none can be redone", y.about(7), 0);
            Check.due("two can be undone", y.about(6), 2);
        }
        LostWords refused = takenBack();
        refused.round(3);
        refused.leave(3);
        refused.put(0, 3);
        refused.change(0, 0);
        refused.image(0);
        refused.source(0, 0);
        Check.due("what is no ACT leaves both to be redone", refused.about(7), 2);
        Check.says(20, "REDO: true;");
        Check.due("redo()", refused.redo(), true);
        Check.due("redo()", refused.redo(), true);
        Check.says(20, "false if there is none.");
        Check.due("redo() of none", refused.redo(), false);
        Check.nothing("redo() of no ACT", () -> Check.told(TEXT + "row a;"), y -> y.redo() ? 1 : 0, 0);
        LostWords done = Check.told(TEXT + "row a b;");
        done.leave(0);
        Check.due("redo() with none taken back", done.redo(), false);
        Check.row("it did nothing", done, 1);
    }

    /** A ROW of one WORD that was changed so often: behind n ACTS it is n modulo 3. */
    private static LostWords changed(int acts) {
        LostWords x = Check.told(TEXT + "row a;");
        for (int i = 1; i <= acts; i++) {
            x.change(0, i % 3);
        }
        return x;
    }

    private static int undoAll(LostWords x) {
        int count = 0;
        while (x.undo()) {
            count++;
        }
        return count;
    }

    private static void forty() {
        Check.says(0, "40 at most are kept, the oldest go.");
        for (int acts : new int[] {39, 40, 41, 42, 80, 100}) {
            LostWords x = changed(acts);
            int kept = Math.min(acts, 40);
            Check.due("kept of " + acts, x.about(6), kept);
            Check.due("undone of " + acts, undoAll(x), kept);
            Check.row("the oldest went of " + acts, x, (acts - kept) % 3);
            Check.due("to be redone of " + acts, x.about(7), kept);
            int redone = 0;
            while (x.redo()) {
                redone++;
            }
            Check.due("redone of " + acts, redone, kept);
            Check.row("as at the end of " + acts, x, acts % 3);
        }
    }

    private static void undoneOfForty() {
        LostWords x = changed(45);
        for (int i = 0; i < 10; i++) {
            x.undo();
        }
        Check.due("30 can be undone", x.about(6), 30);
        Check.due("10 can be redone", x.about(7), 10);
        x.leave(0);
        Check.due("31 can be undone", x.about(6), 31);
        Check.due("none can be redone", x.about(7), 0);
        for (int i = 0; i < 9; i++) {
            x.put(0, 0);
        }
        Check.due("40 can be undone", x.about(6), 40);
        x.put(0, 0);
        Check.due("40 still", x.about(6), 40);
        Check.due("undone", undoAll(x), 40);
        Check.row("behind the sixth ACT", x, 6 % 3);
    }

    private static void images() {
        Check.says(47, "The ROW at the table, the round, the SEED are kept in a BOX 0 .. 2: the round;");
        LostWords x = Check.told(TEXT + "row a b c a;draw 7;");
        Check.due("image(0)", x.image(0), 0);
        x.round(0);
        Check.due("image(1)", x.image(1), 1);
        x.round(0);
        Check.due("image(2)", x.image(2), 2);
        Check.due("an image is no ACT", x.about(6), 2);
        x.back(0);
        Check.row("the ROW of BOX 0", x, 0, 1, 2, 0);
        Check.due("the round of BOX 0", x.about(3), 0);
        Check.due("the SEED of BOX 0", x.about(4), 7);
        x.back(1);
        Check.row("the ROW of BOX 1", x, 0, 1, 0);
        Check.due("the SEED of BOX 1", x.about(4), 30);
        x.back(2);
        Check.due("the round of BOX 2", x.about(3), 2);
        Check.due("image(2) in place of the older", x.back(0) * 10 + x.image(2), 0);
        x.leave(0);
        Check.due("round", x.back(2), 0);
        Check.row("the newer is kept", x, 0, 1, 2, 0);
        Check.due("of no ROW", new LostWords().image(2), 0);
        Check.says(47, "NONE if there is none such.");
        for (int box : new int[] {3, -1, MOST, LEAST}) {
            Check.nothing("image(" + box + ")", Check::busy, y -> y.image(box), -1);
        }
    }

    private static void backs() {
        Check.says(48, "All is as it was kept (no ACTS are kept then): the round;");
        LostWords x = Check.told(TEXT + "row a b c a;draw 7;slip a;slip a;");
        x.round(2);
        x.image(0);
        x.round(0);
        x.put(0, 2);
        x.undo();
        x.hint(0, 1, true);
        x.later(3);
        x.sittings();
        Check.due("back(0)", x.back(0), 1);
        Check.row("the ROW", x, 0, 2, 0);
        Check.due("the round", x.about(3), 1);
        Check.due("the SEED", x.about(4), 7);
        Check.due("no ACTS", x.about(6), 0);
        Check.due("none to be redone", x.about(7), 0);
        Check.due("undo()", x.undo(), false);
        Check.due("redo()", x.redo(), false);
        Check.due("HINTS stay", x.about(8), 1);
        Check.due("the TIME stays", x.about(9), 3);
        Check.due("what lies there stays", x.about(12), 2);
        x.leave(0);
        Check.due("undo() of what is done then", x.undo(), true);
        Check.row("as kept", x, 0, 2, 0);
        Check.due("a BOX is there again and again", x.back(0), 1);
        Check.says(48, "NONE, doing nothing, if nothing was.");
        Check.nothing("back(0), where nothing was kept", Check::busy, y -> y.back(0), -1);
        for (int box : new int[] {3, -1, MOST, LEAST}) {
            Check.nothing("back(" + box + ")", Check::busy, y -> y.back(box), -1);
        }
    }
}
