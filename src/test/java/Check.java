import java.util.ArrayList;
import java.util.List;
import java.util.function.Supplier;
import java.util.function.ToIntFunction;

/** What the tests share: texts fed to an object, answers compared, the end with its exit code. */
final class Check {
    private static int wrong = 0;
    private static int seen = 0;
    private static String sentence = "";

    private Check() {
    }

    /**
     * The sentence by which the next answers are due, of a promise (0: of what stands ahead of them
     * all). SentencesTest looks whether the document is told so, and told whole.
     */
    static void says(int promise, String words) {
        sentence = " (" + promise + ": " + words + ")";
    }

    static void due(String call, long got, long want) {
        seen++;
        if (got != want) {
            wrong++;
            System.out.println(call + " answered " + got + ", due is " + want + sentence);
        }
    }

    static void due(String call, boolean got, boolean want) {
        due(call, got ? 1 : 0, want ? 1 : 0);
    }

    /** What lies there, and nothing behind it. */
    static void lying(String call, LostWords x, int... want) {
        due(call + ": about(12)", x.about(12), want.length);
        for (int i = 0; i < want.length; i++) {
            due(call + ": lies(" + i + ")", x.lies(i), want[i]);
        }
        due(call + ": lies behind the last", x.lies(want.length), LostWords.NONE);
        due(call + ": lies(-1)", x.lies(-1), LostWords.NONE);
    }

    static void row(String call, LostWords x, int... want) {
        due(call + ": size(-1)", x.size(-1), want.length);
        for (int i = 0; i < want.length; i++) {
            due(call + ": word(" + i + ")", x.word(i), want[i]);
        }
        due(call + ": word behind the last", x.word(want.length), LostWords.NONE);
    }

    static void feed(LostWords x, String text) {
        int before = x.about(10);
        for (int i = 0; i < text.length(); i += 20) {
            x.feed(four(text, i), four(text, i + 4), four(text, i + 8), four(text, i + 12),
                four(text, i + 16));
        }
        x.end(before + text.length());
    }

    /** Four bytes of a text as a number for feed, blanks behind its end. */
    static int four(String text, int from) {
        int number = 0;
        for (int i = from; i < from + 4; i++) {
            number = number << 8 | (i < text.length() ? text.charAt(i) & 255 : ' ');
        }
        return number;
    }

    /** A new object with this TABLE. */
    static LostWords told(String text) {
        LostWords x = new LostWords();
        feed(x, text);
        if (x.table() == LostWords.NONE) {
            due("table() of " + text + " with fault " + x.fault(0) + " at " + x.fault(1), 0, 1);
        }
        return x;
    }

    static void fault(String text, int number, int place) {
        LostWords x = new LostWords();
        feed(x, text);
        due("table() of " + text, x.table(), LostWords.NONE);
        due("fault(0) of " + text, x.fault(0), number);
        due("fault(1) of " + text, x.fault(1), place);
        due("the tape stays of " + text, x.about(10), text.length());
    }

    /** Whether a refused call leaves an object as one is on which it was not called. */
    static void nothing(String call, Supplier<LostWords> made, ToIntFunction<LostWords> refused, int want) {
        LostWords called = made.get();
        LostWords other = made.get();
        due(call, refused.applyAsInt(called), want);
        List<Integer> is = view(called);
        List<Integer> was = view(other);
        due(call + " does nothing: " + is + " was " + was, is.equals(was), true);
    }

    /** All that can be seen of an object, its ACTS, BOXES and HINTS too (it is used up by that). */
    private static List<Integer> view(LostWords x) {
        List<Integer> seen = new ArrayList<>();
        seen.add(x.fault(0));
        seen.add(x.fault(1));
        for (int what = 0; what <= 12; what++) {
            seen.add(x.about(what));
        }
        for (int i = 0; i < x.about(12); i++) {
            seen.add(x.lies(i));
        }
        for (int k = -1; k <= x.about(9); k++) {
            seen.add(x.seats(k));
        }
        for (int hint = 0; hint < x.about(8); hint++) {
            seen.add(x.untell(hint) ? 1 : 0);
        }
        while (x.redo()) {
            addRow(x, seen);
        }
        while (x.undo()) {
            addRow(x, seen);
        }
        for (int box = 0; box < 3; box++) {
            seen.add(x.back(box));
            addRow(x, seen);
        }
        return seen;
    }

    private static void addRow(LostWords x, List<Integer> seen) {
        for (int place = 0; place < x.size(-1); place++) {
            seen.add(x.word(place));
        }
        seen.add(x.about(3));
        seen.add(x.about(4));
    }

    /** An object with something of all that can be there. */
    static LostWords busy() {
        LostWords x = told("word a worth 3;word b worth 5;word c worth 2;beside a b 4;beside b c -2;beside c a 1;"
            + "row a b c a b;slip a b c;slip a c;slip c;slip a b c;miss worth*times+left;draw 7;");
        x.image(1);
        x.round(0);
        x.image(2);
        x.put(1, 2);
        x.change(0, 2);
        x.leave(1);
        x.undo();
        x.hint(0, 3, true);
        x.later(2);
        x.hint(2, 0, false);
        x.untell(0);
        x.later(1);
        x.source(0, 1);
        feed(x, "word q worth 1;#");
        x.table();
        return x;
    }

    static void finish() {
        System.out.println(wrong == 0 ? seen + " answers are as due" : wrong + " answers are not as due");
        if (wrong != 0) {
            System.exit(1);
        }
    }
}
