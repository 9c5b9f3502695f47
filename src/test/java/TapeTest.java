/** Promises 1 to 5: the TAPE, the TABLE, its FAULTS. */
public final class TapeTest {
    private static final String ABC = "word a worth 1; word b worth 2; word c worth 3; ";

    public static void main(String[] args) {
        newObject();
        feeding();
        ending();
        tableAnew();
        tokens();
        lines();
        numbers();
        limits();
        formulas();
        Check.finish();
    }

    private static void newObject() {
        LostWords x = new LostWords();
        for (int what = 0; what <= 12; what++) {
            Check.due("about(" + what + ") of a new object", x.about(what), 0);
        }
        Check.due("about(13)", x.about(13), -1);
        Check.due("about(-1)", x.about(-1), -1);
        Check.due("fault(0) of a new object", x.fault(0), 0);
        Check.due("fault(1) of a new object", x.fault(1), -1);
        Check.due("fault(2)", x.fault(2), -1);
        Check.due("fault(-1)", x.fault(-1), -1);
        Check.due("NONE", LostWords.NONE, -1);
        Check.due("GAP", LostWords.GAP, -1000000);
    }

    private static void feeding() {
        LostWords x = new LostWords();
        for (int i = 1; i <= 80; i++) {
            Check.due("feed " + i, x.feed(0x20202020, 0x20202020, 0x20202020, 0x0a0a0a0a, 0x20202020), 20 * i);
        }
        Check.due("feed beyond 1600", x.feed(0, 0, 0, 0, 0), -1);
        Check.due("bytes", x.about(10), 1600);
        Check.due("end(1581)", x.end(1581), 1581);
        Check.due("feed to 1601", x.feed(0, 0, 0, 0, 0), -1);
        Check.due("bytes stay", x.about(10), 1581);
        Check.due("end(1580)", x.end(1580), 1580);
        Check.due("feed to 1600", x.feed(0x20202020, 0x20202020, 0x20202020, 0x20202020, 0x20202020), 1600);
        Check.due("blanks alone", x.table(), 0);
        Check.due("the tape is empty then", x.about(10), 0);
        // The highest byte of each number comes first: "word", " a w", "orth", " 7; ", "   a".
        x.feed(0x776f7264, 0x20612077, 0x6f727468, 0x20373b20, 0x20202061);
        x.end(19);
        Check.due("table() of one word", x.table(), 0);
        Check.due("its worth", x.worth(0), 7);
    }

    private static void ending() {
        LostWords x = new LostWords();
        Check.due("end(0) of nothing", x.end(0), 0);
        Check.due("end(1) of nothing", x.end(1), -1);
        Check.due("end(-1)", x.end(-1), -1);
        x.feed(0x64726177, 0x20353b21, 0, 0, 0);
        Check.due("end(21)", x.end(21), -1);
        Check.due("bytes stay", x.about(10), 20);
        Check.due("end(-5)", x.end(-5), -1);
        Check.due("end(20)", x.end(20), 20);
        Check.due("end(7)", x.end(7), 7);
        Check.due("end(8) behind end(7)", x.end(8), -1);
        Check.due("draw 5;", x.table(), 0);
        Check.due("the seed", x.about(4), 5);
    }

    private static void tableAnew() {
        LostWords x = Check.told(ABC + "row a b c; slip a b; slip b; draw 17;");
        x.round(0);
        x.leave(0);
        x.undo();
        x.image(1);
        x.later(9);
        x.hint(0, 1, true);
        x.sittings();
        Check.due("something lies there", x.about(12), 2);
        Check.feed(x, "word a worth 1; row a a; slip zz;");
        Check.due("a fault", x.table(), -1);
        Check.due("fault(0)", x.fault(0), 5);
        Check.due("fault(1)", x.fault(1), 30);
        Check.due("slips stay", x.about(0), 2);
        Check.due("words stay", x.about(1), 3);
        Check.due("the row stays", x.about(2), 2);
        Check.due("the round stays", x.about(3), 1);
        Check.due("the seed stays", x.about(4), (17 * 137 + 71) % 1000);
        Check.due("acts stay", x.about(6), 1);
        Check.due("undone acts stay", x.about(7), 1);
        Check.due("hints stay", x.about(8), 1);
        Check.due("the tape stays", x.about(10), 33);
        Check.due("what lies there stays", x.about(12), 2);
        x.end(0);
        Check.feed(x, "word q worth 4; word r worth 5; row r q r; slip q; beside q r 3; miss 1 + 2;");
        Check.due("table()", x.table(), 1);
        Check.due("fault(0) then", x.fault(0), 0);
        Check.due("fault(1) then", x.fault(1), -1);
        Check.due("slips", x.about(0), 1);
        Check.due("words", x.about(1), 2);
        Check.row("the row as told", x, 1, 0, 1);
        Check.due("round 0", x.about(3), 0);
        Check.due("the seed without draw", x.about(4), 0);
        Check.due("besides", x.about(5), 1);
        Check.due("no acts", x.about(6), 0);
        Check.due("none undone", x.about(7), 0);
        Check.due("no hints", x.about(8), 0);
        Check.due("the time stays", x.about(9), 9);
        Check.due("the tape is empty", x.about(10), 0);
        Check.due("units", x.about(11), 2);
        Check.due("nothing lies there", x.about(12), 0);
        Check.due("boxes are empty", x.back(1), -1);
        Check.due("undo()", x.undo(), false);
        Check.due("redo()", x.redo(), false);
        Check.due("untell(0)", x.untell(0), false);
        Check.due("an empty tape is a table", x.table(), 0);
        Check.due("no words then", x.about(1), 0);
        Check.due("no besides then", x.beside(0, 1), -1000000);
        Check.due("no units then", x.about(11), 0);
        Check.due("no row then", x.size(-1), 0);
        Check.feed(x, "word q worth 4; word r worth 5;");
        x.table();
        Check.due("an older beside is gone", x.beside(0, 1), 0);
        Check.due("an older miss is gone", x.put(0, 1) * 100 + x.miss(0), 105);
    }

    private static void tokens() {
        Check.fault("Word", 1, 0);
        Check.fault("word a worth 1 ;\t", 1, 16);
        Check.fault("word a worth 1 ;\r\n", 1, 16);
        Check.fault("word \u00e9", 1, 5);
        Check.fault("\u0000", 1, 0);
        Check.fault("word a, worth 1;", 1, 6);
        Check.fault("word abcdefghi worth 1;", 1, 5);
        Check.fault("word a worth 00001;", 1, 13);
        Check.fault("draw 5x;", 1, 5);
        Check.fault("miss 1and 2;", 1, 5);
        Check.fault("words a worth 1;", 2, 0);
        Check.fault("word_a", 1, 4);
        // A fault of the grammar ahead of one that is no token comes first.
        Check.fault("row ; #", 2, 4);
        LostWords x = Check.told("word\nabcdefgh\nworth\n0020;word b worth3;beside abcdefgh b-9;row b;draw 0999;");
        Check.due("eight letters, four digits", x.worth(0), 20);
        Check.due("a digit directly behind a word", x.worth(1), 3);
        Check.due("a sign without blanks", x.beside(0, 1), -9);
        Check.due("draw 0999", x.about(4), 999);
        Check.due("names like parts of the grammar",
            Check.told("word e worth 1; word both worth 2; word unit worth 3; word line worth 4;").about(1), 4);
        String[] own = {"word", "worth", "beside", "row", "slip", "miss", "draw", "or", "and", "not", "place",
            "size", "times", "left", "right"};
        for (String name : own) {
            Check.fault("word " + name + " worth 1;", 2, 5);
        }
    }

    private static void lines() {
        Check.fault("a", 2, 0);
        Check.fault(";", 2, 0);
        Check.fault("5", 2, 0);
        Check.fault("word", 2, 4);
        Check.fault("word ", 2, 5);
        Check.fault("word 5", 2, 5);
        Check.fault("word a 5", 2, 7);
        Check.fault("word a worth ;", 2, 13);
        Check.fault("word a worth -1;", 2, 13);
        Check.fault("word a worth 1", 2, 14);
        Check.fault("word a worth 1 2;", 2, 15);
        Check.fault("word a worth 1; word a worth 2;", 3, 21);
        Check.fault(ABC + "row ;", 2, 52);
        Check.fault(ABC + "row a 5;", 2, 54);
        Check.fault(ABC + "row a row;", 2, 54);
        Check.fault(ABC + "row a z;", 5, 54);
        Check.fault(ABC + "row z 5;", 5, 52);
        Check.fault(ABC + "row a; row b;", 2, 55);
        Check.fault(ABC + "slip ;", 2, 53);
        Check.fault(ABC + "slip a b z", 5, 57);
        Check.fault("row a; word a worth 1;", 5, 4);
        Check.fault("slip a; word a worth 1;", 5, 5);
        Check.fault(ABC + "beside z a 1;", 5, 55);
        Check.fault(ABC + "beside a z 1;", 5, 57);
        Check.fault(ABC + "beside a 1;", 2, 57);
        Check.fault(ABC + "beside a b ;", 2, 59);
        Check.fault(ABC + "beside a b - ;", 2, 61);
        Check.fault(ABC + "beside a b - - 1;", 2, 61);
        Check.fault(ABC + "beside a b + 1;", 2, 59);
        Check.fault(ABC + "beside a b 1; beside a b 2;", 3, 71);
        Check.fault(ABC + "beside a a 1; beside a a 1;", 3, 71);
        Check.fault("draw ;", 2, 5);
        Check.fault("draw -1;", 2, 5);
        Check.fault("draw 1; draw 2;", 2, 8);
        Check.fault("miss 1; miss 2;", 2, 8);
        LostWords x = Check.told(ABC + "beside a b 1; beside b a 2; beside a a -3; beside b c -0;");
        Check.due("a b", x.beside(0, 1), 1);
        Check.due("b a", x.beside(1, 0), 2);
        Check.due("a a", x.beside(0, 0), -3);
        Check.due("b c", x.beside(1, 2), 0);
        Check.due("besides", x.about(5), 4);
    }

    private static void numbers() {
        Check.fault("word a worth 21;", 4, 13);
        Check.fault("word a worth 9999", 4, 13);
        Check.due("worth 20", Check.told("word a worth 20;").worth(0), 20);
        Check.due("worth 0", Check.told("word a worth 0;").worth(0), 0);
        Check.fault(ABC + "beside a b 10;", 4, 59);
        Check.fault(ABC + "beside a b -10;", 4, 59);
        Check.fault(ABC + "beside a b - 10;", 4, 59);
        Check.fault(ABC + "beside a b -10000;", 1, 60);
        Check.due("-9", Check.told(ABC + "beside a b - 9;").beside(0, 1), -9);
        Check.due("9", Check.told(ABC + "beside a b 9;").beside(0, 1), 9);
        Check.fault("draw 1000;", 4, 5);
        Check.due("draw 999", Check.told("draw 999;").about(4), 999);
        Check.due("draw 0", Check.told("draw 0;").about(4), 0);
    }

    private static void limits() {
        StringBuilder words = new StringBuilder();
        for (int i = 0; i < 9; i++) {
            words.append("word ").append((char) ('a' + i)).append(" worth ").append(i).append(";");
        }
        String nine = words.toString();
        Check.due("nine words", Check.told(nine).about(1), 9);
        Check.fault(nine + "word a worth 99;", 2, nine.length());
        StringBuilder besides = new StringBuilder(nine);
        for (int i = 0; i < 20; i++) {
            besides.append("beside ").append((char) ('a' + i / 9)).append(' ').append((char) ('a' + i % 9))
                .append(" 1;");
        }
        String twenty = besides.toString();
        Check.due("twenty besides", Check.told(twenty).about(5), 20);
        Check.fault(twenty + "beside zz", 2, twenty.length());
        Check.due("a row of 12", Check.told(nine + "row a b c d e f g h i a b c;").size(-1), 12);
        Check.fault(nine + "row a b c d e f g h i a b c d;", 2, nine.length() + 28);
        Check.fault(nine + "row a b c d e f g h i a b c zz;", 2, nine.length() + 28);
        Check.due("a slip of 8", Check.told(nine + "slip a b c d e f g h;").size(0), 8);
        Check.fault(nine + "slip a b c d e f g h a;", 2, nine.length() + 21);
        String five = nine + "slip a;slip a;slip b;slip c;slip d;";
        Check.due("five slips", Check.told(five).about(0), 5);
        Check.fault(five + "slip", 2, five.length());
    }

    private static void formulas() {
        Check.fault("miss ;", 2, 5);
        Check.fault("miss a;", 2, 5);
        Check.fault("miss 1", 2, 6);
        Check.fault("miss 1 2;", 2, 7);
        Check.fault("miss -1;", 2, 5);
        Check.fault("miss 1 < 2 < 3;", 2, 11);
        Check.fault("miss 1 + not 2;", 2, 9);
        Check.fault("miss not;", 2, 8);
        Check.fault("miss (1;", 2, 7);
        Check.fault("miss 1);", 2, 6);
        Check.fault("miss ();", 2, 6);
        Check.fault("miss 1 and;", 2, 10);
        Check.fault("miss 1 or or 2;", 2, 10);
        Check.fault("miss beside;", 2, 5);
        Check.due("units of brackets count", Check.told("miss ((1) + place) * size;").about(11), 5);
        String thirty = "miss 1" + "+1".repeat(29);
        Check.due("30 units", Check.told(thirty + ";").about(11), 30);
        Check.fault(thirty + "+1;", 2, thirty.length() + 1);
        Check.fault(thirty + "+(1);", 2, thirty.length() + 1);
        String bracketed = "miss (1" + "+1".repeat(28) + ")";
        Check.due("30 units with a bracket", Check.told(bracketed + ";").about(11), 30);
        Check.fault(bracketed + "+1;", 2, bracketed.length() + 1);
        Check.due("7 brackets", Check.told("miss (((((((1)))))));").about(11), 8);
        Check.fault("miss ((((((((1))))))));", 2, 12);
        Check.due("7 nots", Check.told("miss not not not not not not not 1;").about(11), 1);
        Check.fault("miss not not not not not not not not 1;", 2, 33);
        Check.fault("miss not ((not ((not (not 1))))));", 2, 21);
        Check.due("7 within each other", Check.told("miss not ((not ((not 1))));").about(11), 5);
        Check.due("what is not within is not counted",
            Check.told("miss (((((((1))))))) + not 1;".replace("+ not", "and not")).about(11), 9);
        String nots = "not not not not not not not 1";
        StringBuilder most = new StringBuilder("miss ").append(nots);
        for (int i = 1; i < 30; i++) {
            most.append(" and ").append(nots);
        }
        LostWords x = Check.told("word a worth 3;row a;" + most + ";");
        Check.due("30 units with 7 nots each", x.miss(0), 0);
        for (int i = 0; i < 5; i++) {
            Check.feed(x, "word a worth 3;row a;" + most + ";");
            x.table();
        }
        Check.feed(x, "word a worth 3;row a;miss " + "1+".repeat(29) + "worth;");
        x.table();
        Check.due("nothing is left of older formulas", x.miss(0), 32);
    }
}
