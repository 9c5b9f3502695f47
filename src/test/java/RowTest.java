/** Promises 6 to 14: what stands there, SENSE, MISS. */
public final class RowTest {
    private static final int GAP = LostWords.GAP;
    private static final String TEXT = "word a worth 4; word b worth 9; word c worth 2; "
        + "beside a b 3; beside b a -2; beside b b 5; beside c a 1; ";

    public static void main(String[] args) {
        rows();
        senses();
        misses();
        formulas();
        wrapping();
        lacking();
        Check.finish();
    }

    private static void rows() {
        LostWords x = Check.told(TEXT + "row a b b a c; slip c; slip b a;");
        Check.row("the row", x, 0, 1, 1, 0, 2);
        Check.due("word(-1)", x.word(-1), -1);
        Check.due("word(MAX)", x.word(Integer.MAX_VALUE), -1);
        Check.due("slip(0, 0)", x.slip(0, 0), 2);
        Check.due("slip(0, 1)", x.slip(0, 1), -1);
        Check.due("slip(1, 1)", x.slip(1, 1), 0);
        Check.due("slip(1, -1)", x.slip(1, -1), -1);
        Check.due("slip(2, 0)", x.slip(2, 0), -1);
        Check.due("slip(-1, 0)", x.slip(-1, 0), -1);
        Check.due("size(-1)", x.size(-1), 5);
        Check.due("size(0)", x.size(0), 1);
        Check.due("size(1)", x.size(1), 2);
        Check.due("size(2)", x.size(2), -1);
        Check.due("size(-2)", x.size(-2), -1);
        Check.due("worth(0)", x.worth(0), 4);
        Check.due("worth(2)", x.worth(2), 2);
        Check.due("worth(3)", x.worth(3), -1);
        Check.due("worth(-1)", x.worth(-1), -1);
        Check.due("beside(1, 0)", x.beside(1, 0), -2);
        Check.due("beside(1, 1)", x.beside(1, 1), 5);
        Check.due("beside(2, 2)", x.beside(2, 2), 0);
        Check.due("beside(0, 3)", x.beside(0, 3), GAP);
        Check.due("beside(3, 0)", x.beside(3, 0), GAP);
        Check.due("beside(-1, 0)", x.beside(-1, 0), GAP);
        Check.due("beside(0, -1)", x.beside(0, -1), GAP);
    }

    private static void senses() {
        LostWords x = Check.told(TEXT + "row a b b a c; slip c; slip b a c a b b; slip a a;");
        Check.due("sense(-1)", x.sense(-1), 3 + 5 - 2);
        Check.due("sense(0)", x.sense(0), 0);
        Check.due("sense(1)", x.sense(1), -2 + 0 + 1 + 3 + 5);
        Check.due("sense(2)", x.sense(2), 0);
        Check.due("sense(3)", x.sense(3), GAP);
        Check.due("sense(-2)", x.sense(-2), GAP);
        x.leave(1);
        Check.due("sense(-1) behind a loss", x.sense(-1), 3 - 2);
    }

    private static void misses() {
        LostWords x = Check.told(TEXT + "row b a c a b;");
        Check.due("miss(0) is the worth", x.miss(0), 9);
        Check.due("miss(5)", x.miss(5), GAP);
        Check.due("miss(-1)", x.miss(-1), GAP);
        Check.due("missed(0)", x.missed(0), 2);
        Check.due("missed(1), the first of like ones", x.missed(1), 0);
        Check.due("missed(2)", x.missed(2), -1);
        Check.due("missed(-1)", x.missed(-1), -1);
        LostWords like = Check.told(TEXT + "row a b a b; miss 7;");
        Check.due("missed(0) of like ones", like.missed(0), 0);
        Check.due("missed(1) of like ones", like.missed(1), 0);
        Check.due("missed(0) without a word", Check.told(TEXT).missed(0), -1);
        Check.due("missed(1) without a word", Check.told(TEXT).missed(1), -1);
    }

    /** MISS of the b at PLACE 1 of a b b a c. */
    private static void formula(String e, int want) {
        LostWords x = Check.told(TEXT + "row a b b a c; miss " + e + ";");
        Check.due("miss " + e, x.miss(1), want);
    }

    private static void formulas() {
        formula("worth", 9);
        formula("place", 1);
        formula("size", 5);
        formula("times", 2);
        formula("left", 3);
        formula("right", 5);
        formula("9999", 9999);
        formula("7 - 2 - 1", 4);
        formula("2 + 3 * 4", 14);
        formula("(2 + 3) * 4", 20);
        formula("7 / 2", 3);
        formula("(0 - 7) / 2", -3);
        formula("(0 - 7) % 2", -1);
        formula("7 % (0 - 4)", 3);
        formula("7 / 0", 0);
        formula("7 % 0", 0);
        formula("24 / 4 / 2", 3);
        formula("24 / 4 * 2", 12);
        formula("20 % 7 * 2", 12);
        formula("1 < 2", 1);
        formula("2 < 2", 0);
        formula("3 > 2", 1);
        formula("2 > 2", 0);
        formula("2 = 2", 1);
        formula("2 = 3", 0);
        formula("1 + 1 = 2", 1);
        formula("5 and 7", 1);
        formula("5 and 0", 0);
        formula("0 or 7", 1);
        formula("0 or 0", 0);
        formula("not 0", 1);
        formula("not 5", 0);
        formula("not not 5", 1);
        formula("not 1 = 2", 1);
        formula("1 or 0 and 0", 1);
        formula("(1 or 0) and 0", 0);
        formula("not 1 and 0", 0);
        formula("not (1 and 0)", 1);
        formula("not 0 or 1", 1);
        formula("(5)", 5);
        formula("(1 < 2) + (3 = 3)", 2);
        formula("worth * times + left - right", 16);
        LostWords ends = Check.told(TEXT + "row b a b; miss left * 100 + right;");
        Check.due("nothing ahead of the first", ends.miss(0), -2);
        Check.due("both sides", ends.miss(1), -197);
        Check.due("nothing behind the last", ends.miss(2), 300);
    }

    private static void wrapping() {
        formula("9999 * 9999 * 9999", 9999 * 9999 * 9999);
        formula("9999 * 9999 * 9999 / 7", 9999 * 9999 * 9999 / 7);
        // 2^31 wraps to the least int, and by -1 it stays so.
        formula("2048 * 1024 * 1024", Integer.MIN_VALUE);
        formula("2048 * 1024 * 1024 / (0 - 1)", Integer.MIN_VALUE);
        formula("2048 * 1024 * 1024 % (0 - 1)", 0);
        formula("2048 * 1024 * 1024 - 1", Integer.MAX_VALUE);
        LostWords x = Check.told(TEXT + "row a b a; miss 2048 * 1024 * 1024 - (place = 1);");
        Check.due("the greatest over the whole range", x.missed(1), 1);
        Check.due("the least over the whole range", x.missed(0), 0);
    }

    private static void lacking() {
        LostWords x = Check.told(TEXT + "row a b b a; slip c; slip b; slip a b; slip a c;");
        Check.due("lacks(0)", x.lacks(0), 3);
        Check.due("lacks(1)", x.lacks(1), 1);
        Check.due("lacks(2)", x.lacks(2), 0);
        Check.due("lacks(3)", x.lacks(3), 2);
        Check.due("lacks(4)", x.lacks(4), -1);
        Check.due("lacks(-1)", x.lacks(-1), -1);
        x.put(0, 2);
        Check.due("lacks(2) by the row now", x.lacks(2), 4);
    }
}
