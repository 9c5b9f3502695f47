/** The document's "Terms", sentence by sentence: the text of a TABLE, its limits, its FAULTS. */
public final class TermsTest {
    private static final String ABC = "word a worth 1;word b worth 2;word c worth 3;";
    private static final String[] OWN_WORDS = {"word", "worth", "beside", "row", "slip", "miss", "draw", "or", "and",
        "not", "place", "size", "times", "left", "right"};

    public static void main(String[] args) {
        calls();
        constants();
        texts();
        lines();
        formulas();
        words();
        numbers();
        signs();
        blanks();
        lengths();
        behindNumbers();
        names();
        nineWords();
        twentyBesides();
        oneRow();
        fiveSlips();
        onceEach();
        units();
        nesting();
        places();
        faults();
        Check.finish();
    }

    private static void calls() {
        Check.says(0, "An object is used for at most 512 calls after it has been made; what later calls answer is free.");
        LostWords x = new LostWords();
        for (int i = 0; i < 511; i++) {
            x.later(1);
        }
        Check.due("the 512th call", x.later(1), 512);
    }

    private static void constants() {
        Check.says(0, "NONE = -1: There is none.");
        Check.due("NONE", LostWords.NONE, -1);
        Check.says(0, "GAP = -1000000: No number is there.");
        Check.due("GAP", LostWords.GAP, -1000000);
    }

    private static void texts() {
        Check.says(0, "A TABLE is a text of at most 1,600 bytes (empty at first)");
        String blanks = " ".repeat(1593);
        Check.due("a line up to byte 1599", Check.told(blanks + "draw 7;").about(4), 7);
        Check.fault(blanks + " draw 7", 2, 1600);
        Check.fault(blanks + "draw 7#", 1, 1599);
        LostWords x = new LostWords();
        Check.due("empty at first: slips", x.about(0), 0);
        Check.due("empty at first: words", x.about(1), 0);
        Check.due("empty at first: the row", x.about(2), 0);
        Check.says(0, "table = {line}.");
        Check.due("no line", Check.told("").about(1), 0);
        Check.due("blanks alone", Check.told(" \n ").about(1), 0);
        Check.due("three lines", Check.told(ABC).about(1), 3);
        Check.fault(";", 2, 0);
        Check.fault(ABC + ";", 2, 45);
        Check.fault(ABC + "a;", 2, 45);
    }

    /** A line is as told; cut behind each TOKEN, or with another one in its stead, it is a FAULT. */
    private static void form(String ahead, String... tokens) {
        StringBuilder text = new StringBuilder(ahead);
        for (String token : tokens) {
            int start = text.length();
            Check.fault(text + "%", 2, start);
            Check.fault(text + "#", 1, start);
            text.append(token).append(' ');
            if (!token.equals(";")) {
                Check.fault(text.toString(), 2, text.length());
            }
        }
        Check.told(text.toString());
    }

    private static void lines() {
        Check.says(0, "line = word NAME worth N ;");
        form("", "word", "a", "worth", "1", ";");
        Check.fault("word a b 1;", 2, 7);
        Check.fault("word a worth b;", 2, 13);
        Check.fault("word a worth -1;", 2, 13);
        Check.says(0, "beside NAME NAME V ;");
        form(ABC, "beside", "a", "b", "4", ";");
        form(ABC, "beside", "a", "b", "-", "4", ";");
        Check.fault(ABC + "beside a 4;", 2, 54);
        Check.says(0, "row NAME {NAME} ;");
        form(ABC, "row", "a", ";");
        form(ABC, "row", "a", "b", "a", ";");
        Check.says(0, "slip NAME {NAME} ;");
        form(ABC, "slip", "a", ";");
        form(ABC, "slip", "a", "b", "a", ";");
        Check.says(0, "miss e ;");
        Check.fault("miss ;", 2, 5);
        Check.fault("miss", 2, 4);
        Check.fault("miss 1", 2, 6);
        Check.fault("miss 1 #", 1, 7);
        Check.fault("miss 1 draw", 2, 7);
        Check.says(0, "draw N ;.");
        form("", "draw", "5", ";");
        Check.fault("draw -5;", 2, 5);
        Check.fault("draw a;", 2, 5);
        Check.says(0, "V = [-] N.");
        Check.due("without a sign", Check.told(ABC + "beside a b 4;").beside(0, 1), 4);
        Check.due("with one", Check.told(ABC + "beside a b -4;").beside(0, 1), -4);
        Check.due("-0", Check.told(ABC + "beside a b -0;").beside(0, 1), 0);
        Check.fault(ABC + "beside a b --4;", 2, 57);
        Check.fault(ABC + "beside a b +4;", 2, 56);
        Check.fault(ABC + "beside a b -a;", 2, 57);
    }

    /** What comes of e at the b of a b c. */
    private static void comes(String e, int want) {
        LostWords x = Check.told(ABC + "beside a b 7;beside b c -4;row a b c;miss " + e + ";");
        Check.due("miss " + e, x.miss(1), want);
    }

    /** In e a FAULT at this byte of it. */
    private static void wrong(String e, int place) {
        Check.fault("miss " + e + ";", 2, place + 5);
    }

    private static void formulas() {
        Check.says(0, "e = both {or both}.");
        comes("0", 0);
        comes("0 or 1", 1);
        comes("0 or 0 or 1", 1);
        comes("1 or 1 and 0", 1);
        wrong("1 or", 4);
        wrong("or 1", 0);
        wrong("1 or or 1", 5);
        Check.says(0, "both = one {and one}.");
        comes("1 and 1 and 0", 0);
        comes("1 and 2 and 3", 1);
        wrong("1 and", 5);
        wrong("and 1", 0);
        wrong("1 and or 1", 6);
        Check.says(0, "one = not one | sum [(< | > | =) sum].");
        comes("not not 7", 1);
        comes("not 1 < 2", 0);
        comes("1 < 2", 1);
        comes("2 > 1", 1);
        comes("2 = 1", 0);
        wrong("not", 3);
        wrong("1 < 2 < 3", 6);
        wrong("1 = 2 > 3", 6);
        wrong("1 < not 2", 4);
        wrong("1 not 2", 2);
        wrong("1 <", 3);
        wrong("1 < = 2", 4);
        Check.says(0, "sum = term {(+ | -) term}.");
        comes("1 + 2 - 3 - 4", -4);
        comes("9 - 2 * 3", 3);
        wrong("1 +", 3);
        wrong("1 + - 2", 4);
        wrong("- 1", 0);
        wrong("+ 1", 0);
        wrong("1 - not 1", 4);
        Check.says(0, "term = unit {(* | / | %) unit}.");
        comes("7 * 5 / 3 % 4", 3);
        comes("100 % 7 * 10 / 3", 6);
        wrong("2 *", 3);
        wrong("* 2", 0);
        wrong("2 * / 3", 4);
        wrong("2 % not 1", 4);
        Check.says(0, "unit = N | worth | place | size | times | left | right | ( e ).");
        comes("9999", 9999);
        comes("worth", 2);
        comes("place", 1);
        comes("size", 3);
        comes("times", 1);
        comes("left", 7);
        comes("right", -4);
        comes("(not 0 or 0)", 1);
        comes("2 * (1 < 2)", 2);
        wrong("()", 1);
        wrong("(1", 2);
        wrong("1)", 1);
        wrong("(1 2)", 3);
        wrong("a", 0);
        for (String own : OWN_WORDS) {
            if (!"worth place size times left right".contains(own)) {
                wrong(own.equals("not") ? "1 + not 1" : own, own.equals("not") ? 4 : 0);
            }
        }
    }

    private static void words() {
        Check.says(0, "TOKENS: words (a .. z, 8 at most)");
        Check.due("a to z", Check.told("word az worth 1;word za worth 2;").about(1), 2);
        Check.due("8 letters", Check.told("word abcdefgh worth 1;row abcdefgh;").about(2), 1);
        Check.fault("word abcdefghi worth 1;", 1, 5);
        Check.fault("word abcdefgh worth 1;row abcdefghi;", 1, 26);
        Check.fault("abcdefghi", 1, 0);
        Check.fault("word " + "a".repeat(300), 1, 5);
        // Sixteen letters are no two words of eight each.
        Check.fault("word a worth 1;word abcdefgh worth 1;row abcdefghabcdefgh;", 1, 41);
        LostWords x = Check.told("word abcdefgh worth 1;word abcdefgi worth 2;word bbcdefgh worth 3;"
            + "slip bbcdefgh abcdefgi abcdefgh;");
        Check.due("the first letter counts", x.slip(0, 0), 2);
        Check.due("the eighth letter counts", x.slip(0, 1), 1);
        Check.due("as told first", x.slip(0, 2), 0);
    }

    private static void numbers() {
        Check.says(0, "N (1 to 4 digits)");
        Check.due("1 digit", Check.told("word a worth 9;").worth(0), 9);
        Check.due("4 digits", Check.told("word a worth 0012;").worth(0), 12);
        comes("0000", 0);
        comes("1234", 1234);
        Check.fault("word a worth 00012;", 1, 13);
        Check.fault("miss 12345;", 1, 5);
        Check.fault("draw 00000;", 1, 5);
        Check.fault("draw " + "1".repeat(300) + ";", 1, 5);
        Check.fault(ABC + "beside a b -00001;", 1, 57);
    }

    private static void signs() {
        Check.says(0, "signs ; ( ) < > = + - * / %");
        String signs = ";()<>=+-*/%";
        for (int sign = 0; sign < 256; sign++) {
            char c = (char) sign;
            boolean isBlank = sign == 32 || sign == 10;
            boolean isToken = signs.indexOf(c) >= 0 || c >= 'a' && c <= 'z' || c >= '0' && c <= '9';
            if (!isBlank) {
                Check.fault(String.valueOf(c), isToken ? 2 : 1, 0);
                Check.fault("draw 5;" + c + ";", isToken ? 2 : 1, 7);
            }
        }
        comes("(1<2)+(2>1)-(1=1)*6/3%5", 0);
    }

    private static void blanks() {
        Check.says(0, "blanks (32, 10) part them or not");
        LostWords close = Check.told("word a worth3;word b worth4;beside a b-5;row a b;miss(1+place)*2;draw7;");
        LostWords wide = Check.told("\n word\na\nworth  3 ;\n\nword b worth 4 ; beside a b - 5 ;\n row\na\nb ;"
            + "miss ( 1 + place ) * 2\n; draw\n7 ; \n");
        for (int what = 0; what <= 12; what++) {
            Check.due("about(" + what + ")", close.about(what), wide.about(what));
        }
        Check.due("beside", close.beside(0, 1), wide.beside(0, 1));
        Check.due("miss", close.miss(1), wide.miss(1));
        Check.due("a miss of 4", wide.miss(1), 4);
        Check.due("a seed of 7", close.about(4), 7);
        Check.fault("draw 5;\t", 1, 7);
        Check.fault("draw 5;\r", 1, 7);
        Check.fault("draw 5;\u00a0", 1, 7);
        Check.fault("draw 5;\f", 1, 7);
    }

    private static void lengths() {
        Check.says(0, "each is as long as can be");
        Check.fault("worda worth 1;", 2, 0);
        Check.fault("word aworth 1;", 2, 12);
        Check.fault(ABC + "rowa;", 2, 45);
        Check.fault(ABC + "row ab;", 5, 49);
        Check.fault("miss nota;", 2, 5);
        Check.fault("miss notplace;", 2, 5);
        Check.due("12 is one number", Check.told("word a worth 12;").worth(0), 12);
        Check.fault("word a worth 1 2;", 2, 15);
        Check.due("a digit ends a word", Check.told("draw5;").about(4), 5);
        Check.due("a name that begins with a word of the text", Check.told("word rows worth 4;").worth(0), 4);
        Check.due("a name that a word of the text begins with", Check.told("word wor worth 4;").worth(0), 4);
    }

    private static void behindNumbers() {
        Check.says(0, "no letter directly behind an N.");
        Check.fault("draw 5x;", 1, 5);
        Check.fault("draw 5 x;", 2, 7);
        Check.fault("draw 9999x;", 1, 5);
        Check.fault("miss 1and 1;", 1, 5);
        Check.fault("miss 1 and 1or 0;", 1, 11);
        Check.due("a blank between", Check.told("miss 1 and 1 or 0;").about(11), 3);
        Check.due("a sign between", Check.told("miss(1)and(1)or 0;").about(11), 5);
        Check.fault("word a worth 1word b worth 2;", 1, 13);
        Check.fault("7a", 1, 0);
        Check.fault("draw 5A;", 1, 6);
    }

    private static void names() {
        Check.says(0, "Words that stand for themselves here are no NAMES.");
        for (String own : OWN_WORDS) {
            Check.fault("word " + own + " worth 1;", 2, 5);
            Check.fault(ABC + "beside " + own + " a 1;", 2, 52);
            Check.fault(ABC + "beside a " + own + " 1;", 2, 54);
            Check.fault(ABC + "row " + own + ";", 2, 49);
            Check.fault(ABC + "row a " + own + ";", 2, 51);
            Check.fault(ABC + "slip " + own + ";", 2, 50);
            Check.fault(ABC + "slip a " + own + ";", 2, 52);
        }
        for (String other : "table line name n v e both one sum term unit words worths if".split(" ")) {
            Check.due(other + " is a NAME", Check.told("word " + other + " worth 1;row " + other + ";").about(2), 1);
        }
    }

    private static String nine() {
        StringBuilder text = new StringBuilder();
        for (int i = 0; i < 9; i++) {
            text.append("word ").append((char) ('a' + i)).append(" worth ").append(i).append(';');
        }
        return text.toString();
    }

    private static void nineWords() {
        Check.says(0, "At most 9 WORDS");
        Check.due("9 words", Check.told(nine()).about(1), 9);
        Check.fault(nine() + "word j worth 1;", 2, nine().length());
        Check.fault(nine() + "draw 5; word", 2, nine().length() + 8);
        Check.says(0, "(worth 0 .. 20)");
        Check.due("worth 0", Check.told("word a worth 0;").worth(0), 0);
        Check.due("worth 20", Check.told("word a worth 20;").worth(0), 20);
        Check.fault("word a worth 21;", 4, 13);
        Check.fault("word a worth 9999;", 4, 13);
    }

    private static String besides(int count) {
        StringBuilder text = new StringBuilder(nine());
        for (int i = 0; i < count; i++) {
            text.append("beside ").append((char) ('a' + i / 9)).append(' ').append((char) ('a' + i % 9))
                .append(' ').append(i % 10).append(';');
        }
        return text.toString();
    }

    private static void twentyBesides() {
        Check.says(0, "20 besides");
        LostWords x = Check.told(besides(20));
        Check.due("20 besides", x.about(5), 20);
        Check.due("the twentieth", x.beside(2, 1), 9);
        Check.due("one that is not told", x.beside(2, 2), 0);
        Check.fault(besides(20) + "beside i i 1;", 2, besides(20).length());
        Check.fault(besides(20) + "beside", 2, besides(20).length());
        Check.says(0, "(of two WORDS told ahead, alike or not, each two once in this order;");
        Check.fault("beside a b 1;" + ABC, 5, 7);
        Check.fault("word a worth 1;beside a b 1;word b worth 2;", 5, 24);
        Check.fault("word b worth 1;beside a b 1;word a worth 2;", 5, 22);
        Check.due("alike", Check.told(ABC + "beside a a 5;").beside(0, 0), 5);
        LostWords both = Check.told(ABC + "beside a b 5;beside b a 6;");
        Check.due("in this order", both.beside(0, 1), 5);
        Check.due("in the other order", both.beside(1, 0), 6);
        Check.fault(ABC + "beside a b 5;beside b a 6;beside a b 5;", 3, 80);
        Check.fault(ABC + "beside a a 0;beside a a 0;", 3, 67);
        Check.says(0, "-9 .. 9)");
        Check.due("9", Check.told(ABC + "beside a b 9;").beside(0, 1), 9);
        Check.due("-9", Check.told(ABC + "beside a b -9;").beside(0, 1), -9);
        Check.fault(ABC + "beside a b 10;", 4, 56);
        Check.fault(ABC + "beside a b -10;", 4, 56);
    }

    private static void oneRow() {
        Check.says(0, "one row");
        Check.fault(ABC + "row a;row a;", 2, 51);
        Check.fault(ABC + "row a;slip a;row", 2, 58);
        Check.says(0, "(1 .. 12 WORDS told ahead), 5 SLIPS");
        Check.fault(ABC + "row;", 2, 48);
        Check.due("1 word", Check.told(ABC + "row c;").word(0), 2);
        String twelve = nine() + "row a b c d e f g h i a b c";
        LostWords x = Check.told(twelve + ";");
        Check.due("12 words", x.about(2), 12);
        Check.due("the twelfth", x.word(11), 2);
        Check.fault(twelve + " d;", 2, twelve.length() + 1);
        Check.fault("row a;" + ABC, 5, 4);
        Check.fault("word a worth 1;row a b;word b worth 2;", 5, 21);
    }

    private static void fiveSlips() {
        Check.says(0, "5 SLIPS (1 .. 8 WORDS told ahead)");
        String five = ABC + "slip a;slip b;slip c;slip a;slip b";
        Check.due("5 slips", Check.told(five + ";").about(0), 5);
        Check.fault(five + ";slip c;", 2, five.length() + 1);
        Check.fault(five + ";slip", 2, five.length() + 1);
        Check.fault(ABC + "slip;", 2, 49);
        Check.due("1 word", Check.told(ABC + "slip c;").slip(0, 0), 2);
        String eight = nine() + "slip a b c d e f g h";
        LostWords x = Check.told(eight + ";");
        Check.due("8 words", x.size(0), 8);
        Check.due("the eighth", x.slip(0, 7), 7);
        Check.fault(eight + " i;", 2, eight.length() + 1);
        Check.fault("slip a;" + ABC, 5, 5);
        Check.fault("word a worth 1;slip a b;word b worth 2;", 5, 22);
        Check.says(0, "WORDS, SLIPS numbered as told;");
        LostWords mixed = Check.told("word z worth 5;slip z;word a worth 6;slip a z;row a;word m worth 7;slip m;");
        Check.due("word 0", mixed.worth(0), 5);
        Check.due("word 1", mixed.worth(1), 6);
        Check.due("word 2", mixed.worth(2), 7);
        Check.due("slip 0", mixed.slip(0, 0), 0);
        Check.due("slip 1", mixed.slip(1, 0), 1);
        Check.due("slip 2", mixed.slip(2, 0), 2);
    }

    private static void onceEach() {
        Check.says(0, "miss, draw (0 .. 999; 0) once each;");
        Check.due("draw 0", Check.told("draw 0;").about(4), 0);
        Check.due("draw 999", Check.told("draw 999;").about(4), 999);
        Check.fault("draw 1000;", 4, 5);
        Check.fault("draw 9999;", 4, 5);
        Check.due("without draw", Check.told(ABC).about(4), 0);
        Check.fault("draw 0;draw 0;", 2, 7);
        Check.fault("draw 5;miss 1;draw 1000;", 2, 14);
        Check.fault("miss 0;miss 0;", 2, 7);
        Check.fault("miss 0;draw 0;miss", 2, 14);
    }

    private static void units() {
        Check.says(0, "60 units in all, 30 in one e");
        String thirty = "miss 1" + "+1".repeat(29);
        Check.due("30 units", Check.told(thirty + ";").about(11), 30);
        Check.fault(thirty + "+1;", 2, thirty.length() + 1);
        Check.fault(thirty + " and not 1;", 2, thirty.length() + 9);
        // A unit ( e ) is one beside those in it, and those in it are in the e around it, too.
        String bracketed = "miss (1" + "+1".repeat(28) + ")";
        Check.due("30 units, one a bracket", Check.told(bracketed + ";").about(11), 30);
        Check.fault(bracketed + "+1;", 2, bracketed.length() + 1);
        String open = "miss 1" + "+1".repeat(28) + "+(";
        Check.fault(open + "1);", 2, open.length());
        String two = "miss (1" + "+1".repeat(13) + ")*(1" + "+1".repeat(13) + ")";
        Check.due("15 units twice", Check.told(two + ";").about(11), 30);
        Check.fault(two + "*(1);", 2, two.length() + 1);
        Check.fault(two + "<1;", 2, two.length() + 1);
        LostWords x = Check.told(thirty + ";");
        Check.feed(x, thirty + "+1;");
        x.table();
        x.end(x.about(10) - 3);
        Check.feed(x, ";");
        Check.due("units of other tables don't count", x.table(), 0);
        Check.due("30 again", x.about(11), 30);
    }

    private static void nesting() {
        Check.says(0, "(a unit ( e ), or a one behind not, within 6 others at most).");
        Check.due("7 brackets", Check.told("miss (((((((1)))))));").about(11), 8);
        Check.fault("miss ((((((((1))))))));", 2, 12);
        Check.due("7 nots", Check.told("miss not not not not not not not 1;").about(11), 1);
        Check.fault("miss not not not not not not not not 1;", 2, 33);
        Check.due("6 nots, a bracket", Check.told("miss not not not not not not (1);").about(11), 2);
        Check.fault("miss not not not not not not not (1);", 2, 33);
        Check.due("6 brackets, a not", Check.told("miss ((((((not 1))))));").about(11), 7);
        Check.fault("miss (((((((not 1)))))));", 2, 12);
        Check.due("a bracket and a not by turns", Check.told("miss not (not (not (not 1)));").about(11), 4);
        Check.fault("miss (not (not (not (not (1)))));", 2, 21);
        // What stands beside one another is not within one another.
        Check.due("7 brackets twice", Check.told("miss (((((((1)))))))+(((((((1)))))));").about(11), 16);
        Check.due("7 nots twice", Check.told("miss not not not not not not not 1 and not not not not not not not 1;")
            .about(11), 2);
        Check.due("7 nots twice by or", Check.told("miss not not not not not not not 1 or not not not not not not not 1;")
            .about(11), 2);
        Check.due("a not behind what is within 6", Check.told("miss ((((((not 1 and not 2))))));").about(11), 8);
        // Of a sum behind not all is within it, of what follows behind and nothing.
        Check.fault("miss not 1 + (((((((1)))))));", 2, 19);
        Check.due("behind and", Check.told("miss not 1 and (((((((1)))))));").about(11), 9);
        Check.fault("miss not 1 < (((((((1)))))));", 2, 19);
    }

    private static void places() {
        Check.says(0, "FAULTS, the first by its place (bytes from 0; the end: the text's length), at one place the least:");
        Check.fault("#", 1, 0);
        Check.fault("  #", 1, 2);
        Check.fault("draw 5", 2, 6);
        Check.fault("draw 5  \n", 2, 9);
        Check.fault("word", 2, 4);
        Check.fault("draw 1000 #", 4, 5);
        Check.fault("row a #", 5, 4);
        Check.fault("word a worth 1;word a #", 3, 20);
        Check.fault("row # a", 1, 4);
        Check.fault("draw ; draw 1000; #", 2, 5);
        Check.fault(ABC + "beside a b - #;", 1, 58);
        // At one place: no TOKEN that can't stand there, too; a WORD too many that no WORD is.
        Check.fault("draw #", 1, 5);
        Check.fault("draw 5 5x;", 1, 7);
        Check.fault(ABC + "row a a a a a a a a a a a a zz;", 2, 73);
        Check.fault(ABC + "slip a a a a a a a a zz;", 2, 66);
    }

    private static void faults() {
        Check.says(0, "1 no TOKEN;");
        Check.fault("WORD a worth 1;", 1, 0);
        Check.fault("word a worth 1.5;", 1, 14);
        Check.says(0, "2 one that can't stand there (one of a sort too many or a second time: at the line's first word;");
        Check.fault("worth", 2, 0);
        Check.fault(nine() + " word a worth 99;", 2, nine().length() + 1);
        Check.fault(besides(20) + " beside a a 99;", 2, besides(20).length() + 1);
        Check.fault(ABC + "row a; row zz;", 2, 52);
        Check.fault(ABC + "slip a;slip a;slip a;slip a;slip a; slip zz;", 2, 81);
        Check.fault("miss 1; miss #;", 2, 8);
        Check.fault("draw 1; draw 1000;", 2, 8);
        Check.says(0, "a WORD too many of a row, a SLIP: at it;");
        Check.fault(ABC + "row a a a a a a a a a a a a  a;", 2, 74);
        Check.fault(ABC + "slip a a a a a a a a  a a;", 2, 67);
        Check.says(0, "a unit too many, what is within 7 others: at its first TOKEN, or the not);");
        String thirty = "miss 1" + "+1".repeat(29);
        Check.fault(thirty + "+ (1);", 2, thirty.length() + 2);
        Check.fault(thirty + "+ place;", 2, thirty.length() + 2);
        Check.fault("miss (((((((( 1))))))));", 2, 12);
        Check.fault("miss ((((((( not 1)))))));", 2, 13);
        Check.says(0, "3 a WORD's NAME told already, two of beside told already (at the second NAME);");
        Check.fault("word a worth 1;word a worth 1;", 3, 20);
        Check.fault(ABC + "word b", 3, 50);
        Check.fault(ABC + "beside b c 1;beside b c", 3, 67);
        Check.says(0, "4 a number that can't be (of V at its sign, if it has one);");
        Check.fault("word a worth 21", 4, 13);
        Check.fault("draw 1000", 4, 5);
        Check.fault(ABC + "beside a b 10", 4, 56);
        Check.fault(ABC + "beside a b -10", 4, 56);
        Check.fault(ABC + "beside a b -  10", 4, 56);
        Check.says(0, "5 a NAME that no WORD has.");
        Check.fault(ABC + "beside d a 1;", 5, 52);
        Check.fault(ABC + "beside a d 1;", 5, 54);
        Check.fault(ABC + "row a d;", 5, 51);
        Check.fault(ABC + "slip d;", 5, 50);
        Check.fault("word a worth 1;row aa;", 5, 19);
    }
}
