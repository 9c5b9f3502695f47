/** Promises 15 to 20, 47 and 48: ACTS, UNDO, REDO, BOXES. */
public final class ActsTest {
    private static final String TEXT = "word a worth 4; word b worth 9; word c worth 2; "
        + "beside a b 3; beside b a -2; beside b b 5; beside c a 1; ";

    public static void main(String[] args) {
        rounds();
        draws();
        byHand();
        undoing();
        forty();
        boxes();
        Check.finish();
    }

    private static void rounds() {
        LostWords x = Check.told(TEXT + "row b a c a b; draw 5;");
        Check.due("round(3)", x.round(3), -1);
        Check.due("round(-1)", x.round(-1), -1);
        Check.due("no act", x.about(6), 0);
        Check.due("round(1)", x.round(1), 2);
        Check.row("the least missed", x, 1, 0, 0, 1);
        Check.due("round(2)", x.round(2), 1);
        Check.row("the most missed, the first", x, 0, 0, 1);
        Check.due("round(1) of like ones", x.round(1), 0);
        Check.row("the first", x, 0, 1);
        Check.due("the round", x.about(3), 3);
        Check.due("the seed stays", x.about(4), 5);
        x.round(1);
        x.round(1);
        Check.row("nothing is left", x);
        Check.due("round(0) without a word", x.round(0), -1);
        Check.due("round(1) without a word", x.round(1), -1);
        Check.due("round(2) without a word", x.round(2), -1);
        Check.due("the seed stays then", x.about(4), 5);
        Check.due("the round then", x.about(3), 5);
    }

    private static void draws() {
        LostWords x = Check.told(TEXT + "row a b c a b c a; draw 998;");
        // 998 * 137 + 71 = 136797: seed 797, 797 % 7 = 6; then 260, 2; 691, 1; 738, 2; 177, 0.
        int[] seeds = {797, 260, 691, 738, 177};
        int[] words = {0, 2, 1, 1, 0};
        for (int i = 0; i < seeds.length; i++) {
            Check.due("round(0) " + i, x.round(0), words[i]);
            Check.due("seed " + i, x.about(4), seeds[i]);
            Check.due("round " + i, x.about(3), i + 1);
        }
        Check.row("what is left", x, 0, 2);
        LostWords fromNought = Check.told(TEXT + "row a b c;");
        Check.due("draw 0 at first: 71 % 3", fromNought.round(0), 2);
        Check.due("seed 71", fromNought.about(4), 71);
    }

    private static void byHand() {
        LostWords x = Check.told(TEXT + "row a b c;");
        Check.due("leave(3)", x.leave(3), -1);
        Check.due("leave(-1)", x.leave(-1), -1);
        Check.due("leave(1)", x.leave(1), 1);
        Check.row("left out", x, 0, 2);
        Check.due("the round stays", x.about(3), 0);
        Check.due("put(3, 0)", x.put(3, 0), -1);
        Check.due("put(-1, 0)", x.put(-1, 0), -1);
        Check.due("put(0, 3)", x.put(0, 3), -1);
        Check.due("put(0, -1)", x.put(0, -1), -1);
        Check.due("put(0, 1)", x.put(0, 1), 3);
        Check.due("put(3, 1)", x.put(3, 1), 4);
        Check.due("put(2, 2)", x.put(2, 2), 5);
        Check.row("put in", x, 1, 0, 2, 2, 1);
        Check.due("change(5, 0)", x.change(5, 0), -1);
        Check.due("change(-1, 0)", x.change(-1, 0), -1);
        Check.due("change(0, 1), the same", x.change(0, 1), -1);
        Check.due("change(0, 3)", x.change(0, 3), -1);
        Check.due("change(0, -1)", x.change(0, -1), -1);
        Check.due("acts", x.about(6), 4);
        Check.due("change(4, 0)", x.change(4, 0), 1);
        Check.row("changed", x, 1, 0, 2, 2, 0);
        for (int i = 6; i <= 12; i++) {
            Check.due("put up to 12", x.put(0, 0), i);
        }
        Check.due("put beyond 12", x.put(0, 0), -1);
        Check.due("acts then", x.about(6), 12);
        Check.due("twelve words", x.about(2), 12);
    }

    private static void undoing() {
        LostWords x = Check.told(TEXT + "row a b c a; draw 3;");
        Check.due("undo() of nothing", x.undo(), false);
        Check.due("redo() of nothing", x.redo(), false);
        x.round(0);
        int seed = x.about(4);
        int left = x.word(0) * 100 + x.word(1) * 10 + x.word(2);
        x.leave(0);
        x.put(1, 2);
        x.change(0, x.word(0) == 0 ? 1 : 0);
        Check.due("acts", x.about(6), 4);
        for (int i = 0; i < 3; i++) {
            Check.due("undo() " + i, x.undo(), true);
        }
        Check.due("as behind the round", x.word(0) * 100 + x.word(1) * 10 + x.word(2), left);
        Check.due("the round", x.about(3), 1);
        Check.due("can be undone", x.about(6), 1);
        Check.due("can be redone", x.about(7), 3);
        Check.due("undo() of the round", x.undo(), true);
        Check.row("as told", x, 0, 1, 2, 0);
        Check.due("round 0 again", x.about(3), 0);
        Check.due("the seed again", x.about(4), 3);
        Check.due("undo() beyond", x.undo(), false);
        Check.due("redo() of the round", x.redo(), true);
        Check.due("the seed once more", x.about(4), seed);
        Check.due("the round once more", x.about(3), 1);
        x.leave(9);
        x.round(7);
        Check.due("what does nothing keeps redo", x.about(7), 3);
        Check.due("redo()", x.redo(), true);
        Check.due("an act", x.put(0, 2), 3);
        Check.due("redo() behind another act", x.redo(), false);
        Check.due("none can be redone", x.about(7), 0);
        Check.due("three can be undone", x.about(6), 3);
    }

    private static void forty() {
        LostWords x = Check.told(TEXT + "row a;");
        for (int i = 0; i < 43; i++) {
            x.change(0, (i + 1) % 3);
        }
        Check.due("forty are kept", x.about(6), 40);
        int undone = 0;
        for (int i = 0; i < 50; i++) {
            undone += x.undo() ? 1 : 0;
        }
        Check.due("forty are undone", undone, 40);
        Check.row("the oldest three are gone", x, 0);
        Check.due("forty can be redone", x.about(7), 40);
        x.redo();
        Check.row("the fourth again", x, 1);
        for (int i = 0; i < 39; i++) {
            x.redo();
        }
        Check.row("the last again", x, 43 % 3);
        Check.due("no more", x.redo(), false);
        x.put(0, 0);
        Check.due("still forty", x.about(6), 40);
        x.undo();
        Check.row("as before", x, 43 % 3);
    }

    private static void boxes() {
        LostWords x = Check.told(TEXT + "row a b c a; draw 3; slip a;");
        Check.due("back(0) of nothing", x.back(0), -1);
        Check.due("image(3)", x.image(3), -1);
        Check.due("image(-1)", x.image(-1), -1);
        Check.due("back(3)", x.back(3), -1);
        Check.due("back(-1)", x.back(-1), -1);
        Check.due("image(2)", x.image(2), 0);
        x.round(0);
        Check.due("image(0)", x.image(0), 1);
        int seed = x.about(4);
        x.round(0);
        x.leave(0);
        x.undo();
        x.sittings();
        Check.due("back(1) of nothing", x.back(1), -1);
        Check.due("it did nothing", x.about(6), 2);
        Check.due("back(0)", x.back(0), 1);
        Check.due("the seed as kept", x.about(4), seed);
        Check.due("the row as kept", x.size(-1), 3);
        Check.due("no acts", x.about(6), 0);
        Check.due("none to redo", x.about(7), 0);
        Check.due("undo()", x.undo(), false);
        Check.due("what lies there stays", x.about(12), 1);
        Check.due("back(2)", x.back(2), 0);
        Check.row("as told", x, 0, 1, 2, 0);
        Check.due("the seed as told", x.about(4), 3);
        x.leave(0);
        Check.due("undo() behind back", x.undo(), true);
        Check.row("as told again", x, 0, 1, 2, 0);
        x.leave(0);
        Check.due("image(2) anew", x.image(2), 0);
        x.leave(0);
        x.back(2);
        Check.row("as kept anew", x, 1, 2, 0);
        Check.due("a box is kept", x.back(0), 1);
    }
}
