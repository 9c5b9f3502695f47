import java.util.Random;

/** Promise 4 on one object again and again: nothing of an older TABLE is left in a newer one. */
public final class AgainTest {
    private static final Random DRAW = new Random(4);

    public static void main(String[] args) {
        for (int n = 0; n < 150; n++) {
            LostWords old = new LostWords();
            int before = DRAW.nextInt(6);
            for (int table = 0; table < before; table++) {
                if (DRAW.nextInt(3) == 0) {
                    faulty(old);
                }
                tell(old, text());
                use(old);
            }
            String text = text();
            tell(old, text);
            LostWords fresh = Check.told(text);
            for (int box = 0; box < 3; box++) {
                Check.due("a box is empty", old.back(box), -1);
            }
            old.hint(0, 1, true);
            fresh.hint(0, 1, true);
            compare(text, old, fresh);
        }
        Check.finish();
    }

    private static void tell(LostWords x, String text) {
        Check.feed(x, text);
        Check.due("table() of " + text, x.table(), text.split("slip", -1).length - 1);
    }

    /** Leaves a half-read table behind, and clears the tape. */
    private static void faulty(LostWords x) {
        Check.feed(x, text() + "#");
        Check.due("a fault", x.table(), -1);
        Check.due("its number", x.fault(0), 1);
        x.end(0);
    }

    private static void use(LostWords x) {
        x.round(0);
        x.put(0, 0);
        x.undo();
        x.sittings();
        for (int box = 0; box < 3; box++) {
            x.image(box);
        }
    }

    private static String text() {
        StringBuilder text = new StringBuilder();
        int words = 1 + DRAW.nextInt(5);
        for (int w = 0; w < words; w++) {
            text.append("word ").append((char) ('a' + w)).append(" worth ").append(DRAW.nextInt(21)).append(';');
        }
        for (int pair = 0; pair < words * words; pair++) {
            if (DRAW.nextInt(3) == 0 && pair < 20) {
                text.append("beside ").append((char) ('a' + pair / words)).append(' ')
                    .append((char) ('a' + pair % words)).append(' ').append(DRAW.nextInt(10)).append(';');
            }
        }
        if (DRAW.nextBoolean()) {
            line(text, "row", words, 12);
        }
        int slips = DRAW.nextInt(6);
        for (int s = 0; s < slips; s++) {
            line(text, "slip", words, 8);
        }
        if (DRAW.nextBoolean()) {
            text.append("miss worth * ").append(DRAW.nextInt(5)).append(" - place;");
        }
        if (DRAW.nextBoolean()) {
            text.append("draw ").append(DRAW.nextInt(1000)).append(';');
        }
        return text.toString();
    }

    private static void line(StringBuilder text, String first, int words, int most) {
        text.append(first);
        int size = 1 + DRAW.nextInt(most);
        for (int i = 0; i < size; i++) {
            text.append(' ').append((char) ('a' + DRAW.nextInt(words)));
        }
        text.append(';');
    }

    private static void compare(String text, LostWords old, LostWords fresh) {
        for (int what = 0; what <= 12; what++) {
            if (what != 9) {
                Check.due("about(" + what + ") " + text, old.about(what), fresh.about(what));
            }
        }
        Check.due("fault(0)", old.fault(0), 0);
        Check.due("fault(1)", old.fault(1), -1);
        for (int i = -1; i < 13; i++) {
            Check.due("word " + text, old.word(i), fresh.word(i));
            Check.due("miss " + text, old.miss(i), fresh.miss(i));
        }
        for (int i = -1; i < 6; i++) {
            Check.due("worth " + text, old.worth(i), fresh.worth(i));
            Check.due("size " + text, old.size(i), fresh.size(i));
            Check.due("sense " + text, old.sense(i), fresh.sense(i));
            Check.due("comes " + text, old.comes(i), fresh.comes(i));
            for (int j = -1; j < 6; j++) {
                Check.due("slip " + text, old.slip(i, j), fresh.slip(i, j));
                Check.due("beside " + text, old.beside(i, j), fresh.beside(i, j));
                Check.due("sources " + text, old.sources(i, j), fresh.sources(i, j));
            }
            Check.due("becomes " + text, old.becomes(1, i), fresh.becomes(1, i));
        }
        Check.due("seats " + text, old.seats(old.about(9)), fresh.seats(0));
        Check.due("sittings " + text, old.sittings(), fresh.sittings());
        for (int i = 0; i < 6; i++) {
            Check.due("lies " + text, old.lies(i), fresh.lies(i));
        }
    }
}
