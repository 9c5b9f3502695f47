/** What ==== 2. says of ROWS, SENSE and MISS, and promises 6 to 14, sentence by sentence. */
public final class EdgeRowTest {
    private static final int GAP = LostWords.GAP;
    private static final int MOST = Integer.MAX_VALUE;
    private static final int LEAST = Integer.MIN_VALUE;
    private static final String TEXT = "word a worth 4;word b worth 9;word c worth 2;"
        + "beside a b 3;beside b a -2;beside b b 5;beside c a 1;";

    public static void main(String[] args) {
        rows();
        slips();
        sizes();
        worths();
        besides();
        senses();
        misses();
        names();
        sides();
        wrapping();
        dividing();
        truths();
        missed();
        lacking();
        Check.finish();
    }

    private static String twelve() {
        return TEXT + "row a b c a b c a b c a b c;";
    }

    private static void rows() {
        Check.says(0, "==== 2. A ROW is a row of WORDS, PLACES from 0 on.");
        LostWords x = Check.told(TEXT + "row c a b;");
        Check.due("PLACE 0", x.word(0), 2);
        Check.due("PLACE 2", x.word(2), 1);
        Check.says(6, "The WORD at a PLACE of the ROW at the table;");
        Check.due("word(1)", x.word(1), 0);
        Check.due("word(11) of twelve", Check.told(twelve()).word(11), 2);
        x.leave(0);
        Check.due("of the ROW as it is now", x.word(0), 0);
        Check.says(6, "NONE if there is none such.");
        Check.due("word(2) of two", x.word(2), -1);
        Check.due("word(-1)", x.word(-1), -1);
        Check.due("word(MAX)", x.word(MOST), -1);
        Check.due("word(MIN)", x.word(LEAST), -1);
        Check.due("word(12) of twelve", Check.told(twelve()).word(12), -1);
        Check.due("word(0) of none", Check.told(TEXT).word(0), -1);
    }

    private static void slips() {
        Check.says(7, "The WORD at a PLACE of a SLIP;");
        LostWords x = Check.told(TEXT + "row c;slip a;slip b c;slip a;slip a;slip a b c a b c a b;");
        Check.due("slip(0, 0)", x.slip(0, 0), 0);
        Check.due("slip(1, 1)", x.slip(1, 1), 2);
        Check.due("slip(4, 7)", x.slip(4, 7), 1);
        Check.says(7, "NONE if there is none such.");
        Check.due("slip(0, 1)", x.slip(0, 1), -1);
        Check.due("slip(4, 8)", x.slip(4, 8), -1);
        Check.due("slip(1, -1)", x.slip(1, -1), -1);
        Check.due("slip(5, 0)", x.slip(5, 0), -1);
        Check.due("slip(-1, 0): not the ROW", x.slip(-1, 0), -1);
        Check.due("slip(MAX, MAX)", x.slip(MOST, MOST), -1);
        Check.due("slip(MIN, MIN)", x.slip(LEAST, LEAST), -1);
        Check.due("slip(2, 0) of two", Check.told(TEXT + "slip a;slip b;").slip(2, 0), -1);
    }

    private static void sizes() {
        Check.says(8, "How many WORDS a SLIP has (of NONE: the ROW at the table);");
        LostWords x = Check.told(TEXT + "row c a b a;slip a;slip a b c a b c a b;");
        Check.due("size(0)", x.size(0), 1);
        Check.due("size(1)", x.size(1), 8);
        Check.due("size(NONE)", x.size(LostWords.NONE), 4);
        x.leave(0);
        Check.due("size(NONE) now", x.size(LostWords.NONE), 3);
        Check.due("size(NONE) of none", Check.told(TEXT).size(LostWords.NONE), 0);
        Check.says(8, "NONE if there is none such.");
        Check.due("size(2)", x.size(2), -1);
        Check.due("size(-2)", x.size(-2), -1);
        Check.due("size(MAX)", x.size(MOST), -1);
        Check.due("size(MIN)", x.size(LEAST), -1);
    }

    private static void worths() {
        Check.says(9, "A WORD's worth;");
        LostWords x = Check.told("word a worth 0;word b worth 20;");
        Check.due("worth(0)", x.worth(0), 0);
        Check.due("worth(1)", x.worth(1), 20);
        Check.says(9, "NONE if there is none such.");
        Check.due("worth(2)", x.worth(2), -1);
        Check.due("worth(-1)", x.worth(-1), -1);
        Check.due("worth(9)", x.worth(9), -1);
        Check.due("worth(MAX)", x.worth(MOST), -1);
        Check.due("worth(MIN)", x.worth(LEAST), -1);
    }

    private static void besides() {
        Check.says(10, "What beside tells of two WORDS in this order;");
        LostWords x = Check.told(TEXT);
        Check.due("beside(0, 1)", x.beside(0, 1), 3);
        Check.due("beside(1, 0)", x.beside(1, 0), -2);
        Check.due("beside(1, 1)", x.beside(1, 1), 5);
        Check.due("beside(0, 0), which is not told", x.beside(0, 0), 0);
        Check.says(10, "GAP if one can't be.");
        Check.due("beside(3, 0)", x.beside(3, 0), GAP);
        Check.due("beside(0, 3)", x.beside(0, 3), GAP);
        Check.due("beside(-1, 0)", x.beside(-1, 0), GAP);
        Check.due("beside(0, -1)", x.beside(0, -1), GAP);
        Check.due("beside(9, 9)", x.beside(9, 9), GAP);
        Check.due("beside(MAX, MIN)", x.beside(MOST, LEAST), GAP);
    }

    private static void senses() {
        Check.says(0, "SENSE of a ROW: what beside tells of each two that stand beside one another (0 if it is not told), together.");
        LostWords x = Check.told(TEXT + "row b b a b;slip a;slip a c b;slip c a b b a;");
        Check.due("5 - 2 + 3", x.sense(-1), 6);
        Check.due("of one WORD", x.sense(0), 0);
        Check.due("of two that are not told", x.sense(1), 0);
        Check.due("sense of none", Check.told(TEXT).sense(-1), 0);
        LostWords most = Check.told("word a worth 1;beside a a 9;row a a a a a a a a a a a a;");
        Check.due("the most", most.sense(-1), 99);
        LostWords least = Check.told("word a worth 1;beside a a -9;row a a a a a a a a a a a a;");
        Check.due("the least", least.sense(-1), -99);
        Check.says(11, "SENSE of a SLIP (of NONE: the ROW at the table);");
        Check.due("sense(2)", x.sense(2), 1 + 3 + 5 - 2);
        x.leave(0);
        Check.due("sense(NONE) now", x.sense(LostWords.NONE), 1);
        Check.says(11, "GAP if there is none such.");
        Check.due("sense(3)", x.sense(3), GAP);
        Check.due("sense(-2)", x.sense(-2), GAP);
        Check.due("sense(MAX)", x.sense(MOST), GAP);
        Check.due("sense(MIN)", x.sense(LEAST), GAP);
    }

    private static void misses() {
        Check.says(0, "MISS of a PLACE: what comes of miss (the WORD's worth, if it is not told)");
        LostWords plain = Check.told(TEXT + "row b a c;");
        Check.due("the worth of b", plain.miss(0), 9);
        Check.due("the worth of c", plain.miss(2), 2);
        LostWords told = Check.told(TEXT + "row b a c;miss worth * 2;");
        Check.due("twice the worth", told.miss(0), 18);
        Check.due("miss 0 is told", Check.told(TEXT + "row b;miss 0;").miss(0), 0);
        Check.due("told ahead of words", Check.told("miss worth + 1;" + TEXT + "row b;").miss(0), 10);
        Check.says(12, "MISS of a PLACE of the ROW at the table;");
        Check.due("miss(1)", told.miss(1), 8);
        told.leave(0);
        Check.due("miss(0) now", told.miss(0), 8);
        Check.says(12, "GAP if there is none such.");
        Check.due("miss(2) of two", told.miss(2), GAP);
        Check.due("miss(-1)", told.miss(-1), GAP);
        Check.due("miss(MAX)", told.miss(MOST), GAP);
        Check.due("miss(MIN)", told.miss(LEAST), GAP);
        Check.due("miss(0) of none", Check.told(TEXT + "miss 5;").miss(0), GAP);
        Check.due("miss(12) of twelve", Check.told(twelve()).miss(12), GAP);
    }

    /** MISS of each PLACE of a b b a c, by this e. */
    private static void each(String e, int... want) {
        LostWords x = Check.told(TEXT + "row a b b a c;miss " + e + ";");
        for (int place = 0; place < want.length; place++) {
            Check.due("miss(" + place + ") by " + e, x.miss(place), want[place]);
        }
    }

    private static void names() {
        Check.says(0, "by worth, place, size (how many WORDS the ROW has), times (how often the ROW has this WORD),");
        each("worth", 4, 9, 9, 4, 2);
        each("place", 0, 1, 2, 3, 4);
        each("size", 5, 5, 5, 5, 5);
        each("times", 2, 2, 2, 2, 1);
        LostWords x = Check.told(TEXT + "row a b b a c;miss size*100+times*10+place;");
        x.leave(1);
        Check.due("by the ROW now", x.miss(1), 411);
    }

    private static void sides() {
        Check.says(0, "left, right (what beside tells of it with the WORD ahead, behind; 0 without one;");
        each("left", 0, 3, 5, -2, 0);
        each("right", 3, 5, -2, 0, 0);
        LostWords one = Check.told(TEXT + "row b;miss left*100+right;");
        Check.due("a WORD alone", one.miss(0), 0);
        one.put(1, 1);
        Check.due("nothing ahead", one.miss(0), 5);
        Check.due("nothing behind", one.miss(1), 500);
    }

    private static void wrapping() {
        Check.says(0, "ints, wrapping;");
        each("2048*1024*1024", LEAST);
        each("2048*1024*1024-1", MOST);
        each("0-2048*1024*1024", LEAST);
        each("0-2048*1024*1024-1", MOST);
        each("2048*1024*1024-1+1", LEAST);
        each("2048*1024*2048", 0);
        each("9999*9999*9999", 9999 * 9999 * 9999);
        each("2048*1024*1024-1<0", 0);
        each("2048*1024*1024<0", 1);
        each("2048*1024*1024-1>2048*1024*1024", 1);
        each("4096*1024*1024=0", 1);
    }

    private static void dividing() {
        Check.says(0, "/ cut, % its rest, both by 0: 0;");
        each("7/2", 3);
        each("(0-7)/2", -3);
        each("7/(0-2)", -3);
        each("(0-7)/(0-2)", 3);
        each("1/2", 0);
        each("7%2", 1);
        each("(0-7)%2", -1);
        each("7%(0-2)", 1);
        each("(0-7)%(0-2)", -1);
        each("7/0", 0);
        each("7%0", 0);
        each("0/0", 0);
        each("0%0", 0);
        each("(0-7)/0", 0);
        each("7/place", 0, 7, 3, 2, 1);
        each("7%place", 0, 0, 1, 1, 3);
        each("2048*1024*1024/(0-1)", LEAST);
        each("2048*1024*1024%(0-1)", 0);
    }

    private static void truths() {
        Check.says(0, "relations, and, or, not are 1 or 0, of what is not 0).");
        each("place<2", 1, 1, 0, 0, 0);
        each("place>2", 0, 0, 0, 1, 1);
        each("place=2", 0, 0, 1, 0, 0);
        each("(0-5)<(0-4)", 1);
        each("2 and 4", 1);
        each("(0-1) and (0-2)", 1);
        each("0 and 4", 0);
        each("4 and 0", 0);
        each("0 and 0", 0);
        each("0 or 0", 0);
        each("0 or (0-3)", 1);
        each("8 or 0", 1);
        each("8 or 4", 1);
        each("not 0", 1);
        each("not 1", 0);
        each("not 7", 0);
        each("not (0-7)", 0);
        each("1 and 2 or 4", 1);
        each("(2 and 4)+(2 or 4)+(not 0)+(1<2)", 4);
        // Both sides are reckoned; by 0 nothing comes to harm.
        each("0 and 1/0", 0);
        each("1 or 1%0", 1);
    }

    private static void missed() {
        Check.says(13, "The PLACE of the least MISS (0), of the greatest (1; of like ones the first);");
        LostWords x = Check.told(TEXT + "row a b c b c a;");
        Check.due("missed(0)", x.missed(0), 2);
        Check.due("missed(1)", x.missed(1), 1);
        LostWords like = Check.told(TEXT + "row a b c;miss 5;");
        Check.due("missed(0) of like ones", like.missed(0), 0);
        Check.due("missed(1) of like ones", like.missed(1), 0);
        LostWords ends = Check.told(TEXT + "row a b c;miss place;");
        Check.due("the first is least", ends.missed(0), 0);
        Check.due("the last is greatest", ends.missed(1), 2);
        LostWords below = Check.told(TEXT + "row a b c;miss 0-place;");
        Check.due("below 0: the last is least", below.missed(0), 2);
        Check.due("below 0: the first is greatest", below.missed(1), 0);
        LostWords far = Check.told(TEXT + "row a b c;miss 2048*1024*1024-(place=1);");
        Check.due("far apart: the least", far.missed(0), 0);
        Check.due("far apart: the greatest", far.missed(1), 1);
        Check.says(13, "NONE without a WORD, or for another what.");
        Check.due("missed(0) of none", Check.told(TEXT).missed(0), -1);
        Check.due("missed(1) of none", Check.told(TEXT).missed(1), -1);
        Check.due("missed(2)", x.missed(2), -1);
        Check.due("missed(-1)", x.missed(-1), -1);
        Check.due("missed(MAX)", x.missed(MOST), -1);
        Check.due("missed(MIN)", x.missed(LEAST), -1);
        LostWords gone = Check.told(TEXT + "row a;");
        gone.leave(0);
        Check.due("missed(0) when all is left out", gone.missed(0), -1);
    }

    private static void lacking() {
        Check.says(14, "WORDS of the ROW at the table that a SLIP has not at all, as bits;");
        LostWords x = Check.told(TEXT + "row a b b a;slip c;slip b;slip b a;slip a c;");
        Check.due("lacks(0)", x.lacks(0), 3);
        Check.due("lacks(1)", x.lacks(1), 1);
        Check.due("lacks(2), which has fewer of them", x.lacks(2), 0);
        Check.due("lacks(3), whose c is not asked for", x.lacks(3), 2);
        x.put(4, 2);
        Check.due("lacks(1) now", x.lacks(1), 5);
        Check.due("lacks of none", Check.told(TEXT + "slip c;").lacks(0), 0);
        StringBuilder nine = new StringBuilder();
        for (int i = 0; i < 9; i++) {
            nine.append("word ").append((char) ('a' + i)).append(" worth 1;");
        }
        Check.due("the ninth WORD", Check.told(nine + "row i;slip a;").lacks(0), 256);
        Check.says(14, "NONE if there is none such.");
        Check.due("lacks(4)", x.lacks(4), -1);
        Check.due("lacks(-1)", x.lacks(-1), -1);
        Check.due("lacks(MAX)", x.lacks(MOST), -1);
        Check.due("lacks(MIN)", x.lacks(LEAST), -1);
    }
}
