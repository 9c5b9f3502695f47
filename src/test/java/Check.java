/** What the tests share: texts fed to an object, answers compared, the end with its exit code. */
final class Check {
    private static int wrong = 0;
    private static int seen = 0;

    private Check() {
    }

    static void due(String call, long got, long want) {
        seen++;
        if (got != want) {
            wrong++;
            System.out.println(call + " answered " + got + ", due is " + want);
        }
    }

    static void due(String call, boolean got, boolean want) {
        due(call, got ? 1 : 0, want ? 1 : 0);
    }

    /** What lies there, and nothing behind it. */
    static void lying(String call, LostWords x, int... want) {
        due(call + ": about(12)", x.about(12), want.length);
        for (int i = 0; i < want.length; i++) {
            due(call + ": lies(" + i + ")", x.lies(i), want[i]);
        }
        due(call + ": lies behind the last", x.lies(want.length), LostWords.NONE);
        due(call + ": lies(-1)", x.lies(-1), LostWords.NONE);
    }

    static void row(String call, LostWords x, int... want) {
        due(call + ": size(-1)", x.size(-1), want.length);
        for (int i = 0; i < want.length; i++) {
            due(call + ": word(" + i + ")", x.word(i), want[i]);
        }
        due(call + ": word behind the last", x.word(want.length), LostWords.NONE);
    }

    static void feed(LostWords x, String text) {
        int before = x.about(10);
        for (int i = 0; i < text.length(); i += 20) {
            x.feed(four(text, i), four(text, i + 4), four(text, i + 8), four(text, i + 12),
                four(text, i + 16));
        }
        x.end(before + text.length());
    }

    private static int four(String text, int from) {
        int number = 0;
        for (int i = from; i < from + 4; i++) {
            number = number << 8 | (i < text.length() ? text.charAt(i) & 255 : ' ');
        }
        return number;
    }

    /** A new object with this TABLE. */
    static LostWords told(String text) {
        LostWords x = new LostWords();
        feed(x, text);
        if (x.table() == LostWords.NONE) {
            due("table() of " + text + " with fault " + x.fault(0) + " at " + x.fault(1), 0, 1);
        }
        return x;
    }

    static void fault(String text, int number, int place) {
        LostWords x = new LostWords();
        feed(x, text);
        due("table() of " + text, x.table(), LostWords.NONE);
        due("fault(0) of " + text, x.fault(0), number);
        due("fault(1) of " + text, x.fault(1), place);
        due("the tape stays of " + text, x.about(10), text.length());
    }

    static void finish() {
        System.out.println(wrong == 0 ? seen + " answers are as due" : wrong + " answers are not as due");
        if (wrong != 0) {
            System.exit(1);
        }
    }
}
