import java.util.ArrayList;
import java.util.List;

/**
 * Twins are objects that were made by the same calls. When one of them was asked or refused something that changes
 * nothing, the two must look alike in all that can be seen, now and behind any call to come.
 */
final class Twins {
    interface Maker {
        PigeonMail make();
    }

    interface Call {
        long on(PigeonMail x);
    }

    private static final int LETTERS = 6, CLERKS = 3, HOLES = 12, ACTS = 14;
    private static final int ASKED_OF_LETTER = 8, ASKED_OF_CLERK = 6, ASKED_OF_ALL = 12, ASKED_LAST = 9;
    /** So many calls are made by asking all; the last but so many is rows(true). */
    static final int ASKED = ASKED_OF_ALL + LETTERS * ASKED_OF_LETTER + CLERKS * ASKED_OF_CLERK + HOLES + ASKED_LAST,
            ROWS_FROM_LAST = ASKED_LAST;

    private Twins() {
    }

    static Maker behind(Maker maker, Call call) {
        return () -> {
            PigeonMail x = maker.make();
            call.on(x);
            return x;
        };
    }

    /** All that can be seen of what is made; each way to look has an object of its own, so that none has 512 calls. */
    static List<Long> seen(Maker maker) {
        List<Long> all = new ArrayList<>();
        ask(maker.make(), all);
        undoAll(maker.make(), all);
        for (int slot = 0; slot < 2; slot++) {
            PigeonMail x = maker.make();
            all.add((long) x.again(slot));
            ask(x, all);
        }
        text(maker.make(), all);
        told(maker.make(), all);
        PigeonMail x = maker.make();
        all.add((long) x.years(30));
        all.add(x.seed(3));
        all.add((long) x.years(30));
        x = maker.make();
        for (int d = 0; d < 15; d++) {
            all.add((long) x.day());
            glance(x, all);
        }
        return all;
    }

    /** What asking all answers; the last call makes the seed 1. */
    static List<Long> asked(PigeonMail x) {
        List<Long> all = new ArrayList<>();
        ask(x, all);
        return all;
    }

    /** All that can be asked with nothing changed, and the seed last, which is 1 then. */
    private static void ask(PigeonMail x, List<Long> all) {
        for (int what = 0; what <= 11; what++) {
            all.add((long) x.about(what));
        }
        for (int l = 0; l < LETTERS; l++) {
            for (int what = 0; what <= 5; what++) {
                all.add((long) x.letter(l, what));
            }
            all.add((long) x.hatches(l));
            all.add((long) x.saved(l));
        }
        for (int c = 0; c < CLERKS; c++) {
            all.add((long) x.clerk(c, 0));
            all.add((long) x.clerk(c, 1));
            all.add((long) x.share(c, true));
            all.add((long) x.share(c, false));
            all.add((long) x.rests(c, (c + 1) % CLERKS, 0));
            all.add((long) x.rests(c, (c + 1) % CLERKS, 1));
        }
        for (int h = 0; h < HOLES; h++) {
            all.add((long) x.hole(h));
        }
        all.add((long) x.rows(true));
        all.add((long) x.rows(false));
        all.add((long) x.quiet());
        all.add((long) x.fault());
        all.add((long) x.hawks(2, 3, true));
        all.add((long) x.ahead(5, 2));
        all.add((long) x.may(0));
        all.add((long) x.may(1));
        all.add(x.seed(1));
    }

    private static void undoAll(PigeonMail x, List<Long> all) {
        for (int i = 0; i <= ACTS; i++) {
            all.add((long) x.undo());
            glance(x, all);
        }
    }

    /** What acts change. */
    private static void glance(PigeonMail x, List<Long> all) {
        for (int what = 2; what <= 7; what++) {
            all.add((long) x.about(what));
        }
        for (int l = 0; l < LETTERS; l++) {
            all.add((long) x.letter(l, 0));
            all.add((long) x.letter(l, 4));
        }
        for (int c = 0; c < CLERKS; c++) {
            all.add((long) x.clerk(c, 0));
        }
    }

    /** The text is seen by its faults as it grows, and by the room that it is. */
    private static void text(PigeonMail x, List<Long> all) {
        all.add((long) x.room());
        ask(x, all);
        for (char b : "C01La10".toCharArray()) {
            all.add((long) x.write(b));
            all.add((long) x.fault());
        }
        all.add((long) x.room());
        ask(x, all);
    }

    private static void told(PigeonMail x, List<Long> all) {
        for (int n = 8; n > 1; n--) {
            all.add((long) x.tell(n, 1));
            all.add((long) x.may(0));
            all.add((long) x.may(1));
        }
        all.add((long) x.untell());
    }
}
