import java.util.ArrayList;
import java.util.List;

/**
 * The refusals that the promises list: each is told, at the first value that is not taken on either side and at the
 * least and the greatest; of several that is answered which the promise tells first; and what is refused changes
 * nothing that can be seen, now or later. So it is with what is asked only.
 */
public final class RefusalsTest {
    private static final Check CHECK = new Check("RefusalsTest");
    private static final int UNKNOWN = PigeonMail.UNKNOWN, BAD = PigeonMail.BAD, LATE = PigeonMail.LATE,
            FULL = PigeonMail.FULL;

    /** An object as some calls made it, how many letters and clerks it has, and how it looks. */
    private static final class Scene {
        final String name;
        final int letters, clerks;
        final Twins.Maker maker;
        final List<Long> looks;

        Scene(String name, int letters, int clerks, Twins.Maker maker) {
            this.name = name;
            this.letters = letters;
            this.clerks = clerks;
            this.maker = maker;
            this.looks = Twins.seen(maker);
        }
    }

    private static final Scene NOTHING = new Scene("nothing", 0, 0, PigeonMail::new);
    private static final Scene SMALL = new Scene("small", 2, 1, RefusalsTest::small);
    private static final Scene BUSY = new Scene("busy", 6, 3, RefusalsTest::busy);
    private static final Scene BRIM = new Scene("brim", 4, 2, RefusalsTest::brim);
    private static final Scene[] ALL = {NOTHING, SMALL, BUSY, BRIM};

    public static void main(String[] args) {
        theScenes();
        write();
        room();
        about();
        letter();
        clerk();
        hole();
        put();
        feed();
        send();
        undo();
        ahead();
        hatches();
        saved();
        judge();
        share();
        tell();
        may();
        rests();
        hawks();
        years();
        keep();
        again();
        unknownAheadOfOthers();
        badAheadOfFull();
        whatIsAskedChangesNothing();
        CHECK.end();
    }

    private static PigeonMail small() {
        PigeonMail x = Check.roomOf("M3La90Lb50C01");
        x.keep(1);
        x.seed(-5);
        return x;
    }

    /** Letter 0 is hatched, 1 flown, 2 answered, 3 lies alone, 4 and 5 lie together; the text is another one. */
    private static PigeonMail busy() {
        PigeonMail x = Check.roomOf("M1La10Lb10Le10Li90Lj93Lj90C11C12C13");
        x.keep(0);
        x.day();
        x.feed(9);
        x.keep(1);
        x.put(3, 11);
        x.send(1, 0);
        x.send(2, 2);
        x.send(2, 1);
        x.tell(2, 0);
        x.tell(4, 1);
        x.seed(77);
        Check.write(x, "M5La2");
        return x;
    }

    /** All is full that can be: text, acts, told, grain. */
    private static PigeonMail brim() {
        PigeonMail x = Check.roomOf("M9La90La93Lh90Lh21C21C02");
        x.keep(0);
        for (int i = 0; i < 12; i++) {
            x.feed(9);
        }
        x.send(1, 1);
        x.send(1, 2);
        x.put(3, 6);
        x.day();
        for (int n = 1; n <= 6; n++) {
            x.tell(n < 4 ? 1 : 8, n < 4 ? 0 : 1);
        }
        x.seed(Long.MIN_VALUE);
        for (int n = x.about(11); n < 48; n++) {
            x.write('L');
        }
        return x;
    }

    private static void theScenes() {
        CHECK.sentence("the scenes are what they are meant to be");
        PigeonMail x = busy();
        int[] fates = {2, 3, 1, 0, 0, 0};
        for (int l = 0; l < 6; l++) {
            CHECK.due("busy: letter(" + l + ", 3)", x.letter(l, 3), fates[l]);
        }
        CHECK.due("busy: acts", x.about(9), 6);
        PigeonMail y = brim();
        int[] most = {4, 2, 1, 99, 15, 0, 0, 0, 0, 14, 6, 48};
        for (int what = 0; what < most.length; what++) {
            CHECK.due("brim: about(" + what + ")", y.about(what), most[what]);
        }
    }

    private static void refused(Scene scene, String call, Twins.Call how, long want) {
        CHECK.due(call + " in " + scene.name, how.on(scene.maker.make()), want);
        if (!Twins.seen(Twins.behind(scene.maker, how)).equals(scene.looks)) {
            CHECK.fail(call + " in " + scene.name + " changed something");
        }
    }

    private static void refusedInAll(String call, Twins.Call how, long want) {
        for (Scene scene : ALL) {
            refused(scene, call, how, want);
        }
    }

    // ---- the room

    private static void write() {
        CHECK.sentence("2: BAD");
        for (int b : Check.outside(0, 255)) {
            refusedInAll("write(" + b + ")", x -> x.write(b), BAD);
        }
        CHECK.sentence("2: FULL: there are 48");
        int[] good = {0, 1, 'M', 254, 255};
        for (int b : good) {
            refused(BRIM, "write(" + b + ")", x -> x.write(b), FULL);
        }
    }

    private static void room() {
        CHECK.sentence("5: LATE: a fault");
        refused(NOTHING, "room() of no text", x -> x.room(), LATE);
        refused(BUSY, "room() of a text that is not at its end", x -> x.room(), LATE);
        refused(BRIM, "room() of a text with a fault within", x -> x.room(), LATE);
    }

    private static void about() {
        CHECK.sentence("6: BAD");
        for (int what : Check.outside(0, 11)) {
            refusedInAll("about(" + what + ")", x -> x.about(what), BAD);
        }
    }

    private static void letter() {
        for (Scene scene : ALL) {
            CHECK.sentence("7: UNKNOWN");
            for (int l : Check.outside(0, scene.letters - 1)) {
                refused(scene, "letter(" + l + ", 0)", x -> x.letter(l, 0), UNKNOWN);
                refused(scene, "letter(" + l + ", 5)", x -> x.letter(l, 5), UNKNOWN);
            }
            CHECK.sentence("7: BAD");
            for (int what : Check.outside(0, 5)) {
                for (int l = 0; l < scene.letters; l++) {
                    int known = l;
                    refused(scene, "letter(" + l + ", " + what + ")", x -> x.letter(known, what), BAD);
                }
            }
        }
    }

    private static void clerk() {
        for (Scene scene : ALL) {
            CHECK.sentence("8: UNKNOWN");
            for (int c : Check.outside(0, scene.clerks - 1)) {
                refused(scene, "clerk(" + c + ", 0)", x -> x.clerk(c, 0), UNKNOWN);
                refused(scene, "clerk(" + c + ", 1)", x -> x.clerk(c, 1), UNKNOWN);
            }
            CHECK.sentence("8: BAD");
            for (int what : Check.outside(0, 1)) {
                for (int c = 0; c < scene.clerks; c++) {
                    int known = c;
                    refused(scene, "clerk(" + c + ", " + what + ")", x -> x.clerk(known, what), BAD);
                }
            }
        }
    }

    private static void hole() {
        CHECK.sentence("9: UNKNOWN");
        for (int h : Check.outside(0, 11)) {
            refusedInAll("hole(" + h + ")", x -> x.hole(h), UNKNOWN);
        }
    }

    // ---- acts

    private static void put() {
        for (Scene scene : ALL) {
            CHECK.sentence("11: UNKNOWN: letter");
            for (int l : Check.outside(0, scene.letters - 1)) {
                refused(scene, "put(" + l + ", 3)", x -> x.put(l, 3), UNKNOWN);
            }
            CHECK.sentence("11: UNKNOWN: hole");
            for (int h : Check.outside(0, 11)) {
                for (int l = 0; l < scene.letters; l++) {
                    int known = l;
                    refused(scene, "put(" + l + ", " + h + ")", x -> x.put(known, h), UNKNOWN);
                }
            }
        }
        CHECK.sentence("11: LATE: it does not lie");
        for (int h = 0; h < 12; h++) {
            int hole = h;
            refused(BUSY, "put of a hatched one in " + h, x -> x.put(0, hole), LATE);
            refused(BUSY, "put of a flown one in " + h, x -> x.put(1, hole), LATE);
            refused(BUSY, "put of an answered one in " + h, x -> x.put(2, hole), LATE);
        }
        CHECK.sentence("11: LATE: it is there");
        refused(SMALL, "put(0, 0) alone", x -> x.put(0, 0), LATE);
        refused(SMALL, "put(1, 1) alone", x -> x.put(1, 1), LATE);
        refused(BUSY, "put(3, 11) alone", x -> x.put(3, 11), LATE);
        refused(BUSY, "put(4, 9) beside another", x -> x.put(4, 9), LATE);
        CHECK.sentence("11: LATE: two are");
        refused(BUSY, "put(3, 9)", x -> x.put(3, 9), LATE);
        refused(BRIM, "put(2, 0)", x -> x.put(2, 0), LATE);
    }

    private static void feed() {
        CHECK.sentence("12: BAD: n (1 .. 9)");
        for (int n : Check.outside(1, 9)) {
            refusedInAll("feed(" + n + ")", x -> x.feed(n), BAD);
        }
    }

    private static void send() {
        for (Scene scene : ALL) {
            CHECK.sentence("13: UNKNOWN: clerk");
            for (int c : Check.outside(0, scene.clerks - 1)) {
                refused(scene, "send(" + c + ", 1)", x -> x.send(c, 1), UNKNOWN);
            }
            for (int c = 0; c < scene.clerks; c++) {
                int known = c;
                CHECK.sentence("13: UNKNOWN: row");
                for (int row : Check.outside(0, 2)) {
                    refused(scene, "send(" + c + ", " + row + ")", x -> x.send(known, row), UNKNOWN);
                }
                CHECK.sentence("13: LATE: it is there");
                int row = scene.maker.make().clerk(c, 0);
                refused(scene, "send(" + c + ", " + row + ")", x -> x.send(known, row), LATE);
            }
        }
    }

    private static void undo() {
        CHECK.sentence("14: LATE: there is none");
        refused(NOTHING, "undo()", x -> x.undo(), LATE);
        refused(SMALL, "undo()", x -> x.undo(), LATE);
    }

    // ---- days to come, rows

    private static void ahead() {
        CHECK.sentence("15: BAD: n");
        for (int n : Check.outside(0, 20)) {
            for (int what = 0; what < 4; what++) {
                int good = what;
                refusedInAll("ahead(" + n + ", " + what + ")", x -> x.ahead(n, good), BAD);
            }
        }
        CHECK.sentence("15: BAD: what");
        for (int what : Check.outside(0, 3)) {
            refusedInAll("ahead(0, " + what + ")", x -> x.ahead(0, what), BAD);
            refusedInAll("ahead(20, " + what + ")", x -> x.ahead(20, what), BAD);
        }
    }

    private static void hatches() {
        CHECK.sentence("16: UNKNOWN");
        for (Scene scene : ALL) {
            for (int l : Check.outside(0, scene.letters - 1)) {
                refused(scene, "hatches(" + l + ")", x -> x.hatches(l), UNKNOWN);
            }
        }
    }

    private static void saved() {
        CHECK.sentence("18: UNKNOWN");
        for (Scene scene : ALL) {
            for (int l : Check.outside(0, scene.letters - 1)) {
                refused(scene, "saved(" + l + ")", x -> x.saved(l), UNKNOWN);
            }
        }
        CHECK.sentence("18: LATE: it does not lie");
        refused(BUSY, "saved of a hatched one", x -> x.saved(0), LATE);
        refused(BUSY, "saved of a flown one", x -> x.saved(1), LATE);
        refused(BUSY, "saved of an answered one", x -> x.saved(2), LATE);
    }

    private static void judge() {
        CHECK.sentence("20: BAD: n");
        for (int n : Check.outside(1, 4)) {
            refusedInAll("judge(" + n + ", 0)", x -> x.judge(n, 0L), BAD);
            refusedInAll("judge(" + n + ", 2001)", x -> x.judge(n, 2001L), BAD);
        }
        CHECK.sentence("20: BAD: row (0 or more, 4 n figures at most)");
        long most = 1;
        for (int n = 1; n <= 4; n++) {
            most *= 10000;
            int doings = n;
            long[] rows = {most, most + 1, 10 * most, 1L << 62, Long.MAX_VALUE - 1, Long.MAX_VALUE, -1, -2, -most,
                1 - most, -2001, Integer.MIN_VALUE, Long.MIN_VALUE, Long.MIN_VALUE + 1};
            for (long row : rows) {
                refusedInAll("judge(" + n + ", " + row + ")", x -> x.judge(doings, row), BAD);
            }
        }
    }

    private static void share() {
        CHECK.sentence("21: UNKNOWN");
        for (Scene scene : ALL) {
            for (int c : Check.outside(0, scene.clerks - 1)) {
                refused(scene, "share(" + c + ", true)", x -> x.share(c, true), UNKNOWN);
                refused(scene, "share(" + c + ", false)", x -> x.share(c, false), UNKNOWN);
            }
        }
    }

    // ---- told

    private static void tell() {
        CHECK.sentence("22: BAD: n");
        for (int n : Check.outside(0, 9)) {
            refusedInAll("tell(" + n + ", 0)", x -> x.tell(n, 0), BAD);
            refusedInAll("tell(" + n + ", 1)", x -> x.tell(n, 1), BAD);
        }
        CHECK.sentence("22: BAD: hatched (0, 1)");
        for (int hatched : Check.outside(0, 1)) {
            refusedInAll("tell(0, " + hatched + ")", x -> x.tell(0, hatched), BAD);
            refusedInAll("tell(9, " + hatched + ")", x -> x.tell(9, hatched), BAD);
        }
        CHECK.sentence("22: FULL: 6");
        for (int n = 0; n <= 9; n++) {
            int good = n;
            refused(BRIM, "tell(" + n + ", 0)", x -> x.tell(good, 0), FULL);
            refused(BRIM, "tell(" + n + ", 1)", x -> x.tell(good, 1), FULL);
        }
    }

    private static void may() {
        CHECK.sentence("24: BAD");
        for (int what : Check.outside(0, 1)) {
            refusedInAll("may(" + what + ")", x -> x.may(what), BAD);
        }
    }

    // ---- rests, chances

    private static void rests() {
        for (Scene scene : ALL) {
            CHECK.sentence("25: UNKNOWN: both");
            for (int c : Check.outside(0, scene.clerks - 1)) {
                refused(scene, "rests(" + c + ", 0, 0)", x -> x.rests(c, 0, 0), UNKNOWN);
                refused(scene, "rests(0, " + c + ", 0)", x -> x.rests(0, c, 0), UNKNOWN);
                refused(scene, "rests(" + c + ", " + c + ", 1)", x -> x.rests(c, c, 1), UNKNOWN);
            }
            CHECK.sentence("25: BAD: both are one");
            for (int c = 0; c < scene.clerks; c++) {
                int both = c;
                refused(scene, "rests(" + c + ", " + c + ", 0)", x -> x.rests(both, both, 0), BAD);
                refused(scene, "rests(" + c + ", " + c + ", 1)", x -> x.rests(both, both, 1), BAD);
            }
        }
        CHECK.sentence("25: BAD: what");
        for (int what : Check.outside(0, 1)) {
            refused(BUSY, "rests(0, 1, " + what + ")", x -> x.rests(0, 1, what), BAD);
            refused(BUSY, "rests(2, 1, " + what + ")", x -> x.rests(2, 1, what), BAD);
            refused(BRIM, "rests(1, 0, " + what + ")", x -> x.rests(1, 0, what), BAD);
        }
    }

    private static void hawks() {
        CHECK.sentence("26: BAD: m");
        for (int m : Check.outside(0, 6)) {
            refusedInAll("hawks(" + m + ", 0, true)", x -> x.hawks(m, 0, true), BAD);
            refusedInAll("hawks(" + m + ", 10, false)", x -> x.hawks(m, 10, false), BAD);
        }
        CHECK.sentence("26: BAD: x");
        for (int tenths : Check.outside(0, 10)) {
            refusedInAll("hawks(0, " + tenths + ", true)", x -> x.hawks(0, tenths, true), BAD);
            refusedInAll("hawks(6, " + tenths + ", false)", x -> x.hawks(6, tenths, false), BAD);
        }
    }

    private static void years() {
        CHECK.sentence("28: BAD: m");
        for (int m : Check.outside(1, 30)) {
            refusedInAll("years(" + m + ")", x -> x.years(m), BAD);
        }
    }

    // ---- slots

    private static void keep() {
        CHECK.sentence("29: UNKNOWN");
        for (int slot : Check.outside(0, 1)) {
            refusedInAll("keep(" + slot + ")", x -> x.keep(slot), UNKNOWN);
        }
    }

    private static void again() {
        CHECK.sentence("30: UNKNOWN");
        for (int slot : Check.outside(0, 1)) {
            refusedInAll("again(" + slot + ")", x -> x.again(slot), UNKNOWN);
        }
        CHECK.sentence("30: LATE: none were kept");
        refused(NOTHING, "again(0)", x -> x.again(0), LATE);
        refused(NOTHING, "again(1)", x -> x.again(1), LATE);
        refused(SMALL, "again(0), slot 1 being kept", x -> x.again(0), LATE);
        refused(BRIM, "again(1), slot 0 being kept", x -> x.again(1), LATE);
    }

    // ---- of several what is told first

    private static void unknownAheadOfOthers() {
        CHECK.sentence("7: UNKNOWN is told ahead of BAD");
        for (int what : Check.outside(0, 5)) {
            refused(NOTHING, "letter(0, " + what + ")", x -> x.letter(0, what), UNKNOWN);
            refused(SMALL, "letter(2, " + what + ")", x -> x.letter(2, what), UNKNOWN);
            refused(BUSY, "letter(-1, " + what + ")", x -> x.letter(-1, what), UNKNOWN);
        }
        CHECK.sentence("8: UNKNOWN is told ahead of BAD");
        for (int what : Check.outside(0, 1)) {
            refused(NOTHING, "clerk(0, " + what + ")", x -> x.clerk(0, what), UNKNOWN);
            refused(SMALL, "clerk(1, " + what + ")", x -> x.clerk(1, what), UNKNOWN);
            refused(BUSY, "clerk(-1, " + what + ")", x -> x.clerk(-1, what), UNKNOWN);
        }
        CHECK.sentence("11: UNKNOWN is told ahead of LATE");
        for (int h : Check.outside(0, 11)) {
            for (int l = 0; l < 3; l++) {
                int gone = l;
                refused(BUSY, "put(" + l + ", " + h + "), which does not lie", x -> x.put(gone, h), UNKNOWN);
            }
        }
        refused(BUSY, "put(6, 9), where two are", x -> x.put(6, 9), UNKNOWN);
        refused(BRIM, "put(-1, 0), where two are", x -> x.put(-1, 0), UNKNOWN);
        refused(NOTHING, "put(-1, -1)", x -> x.put(-1, -1), UNKNOWN);
        CHECK.sentence("13: UNKNOWN is told ahead of LATE");
        refused(SMALL, "send(1, 0), where clerk 0 is", x -> x.send(1, 0), UNKNOWN);
        refused(NOTHING, "send(0, 0)", x -> x.send(0, 0), UNKNOWN);
        refused(BUSY, "send(3, 3)", x -> x.send(3, 3), UNKNOWN);
        CHECK.sentence("25: UNKNOWN is told ahead of BAD");
        for (int what : Check.outside(0, 1)) {
            refused(NOTHING, "rests(0, 0, " + what + ")", x -> x.rests(0, 0, what), UNKNOWN);
            refused(SMALL, "rests(0, 1, " + what + ")", x -> x.rests(0, 1, what), UNKNOWN);
            refused(BUSY, "rests(3, 0, " + what + ")", x -> x.rests(3, 0, what), UNKNOWN);
            refused(BUSY, "rests(-1, -1, " + what + ")", x -> x.rests(-1, -1, what), UNKNOWN);
        }
    }

    private static void badAheadOfFull() {
        CHECK.sentence("2: BAD is told ahead of FULL");
        refused(BRIM, "write(-1)", x -> x.write(-1), BAD);
        refused(BRIM, "write(256)", x -> x.write(256), BAD);
        CHECK.sentence("22: BAD is told ahead of FULL");
        refused(BRIM, "tell(10, 0)", x -> x.tell(10, 0), BAD);
        refused(BRIM, "tell(-1, 1)", x -> x.tell(-1, 1), BAD);
        refused(BRIM, "tell(0, 2)", x -> x.tell(0, 2), BAD);
        refused(BRIM, "tell(9, -1)", x -> x.tell(9, -1), BAD);
    }

    // ---- nothing is changed

    private static void whatIsAskedChangesNothing() {
        for (Scene scene : ALL) {
            CHECK.sentence("4, 6 to 9: asked only");
            changesNothing(scene, "fault()", x -> x.fault());
            for (int n = 0; n < 12; n++) {
                int what = n;
                changesNothing(scene, "about(" + n + ")", x -> x.about(what));
                changesNothing(scene, "hole(" + n + ")", x -> x.hole(what));
                changesNothing(scene, "letter(" + n % 6 + ", 5)", x -> x.letter(what % 6, 5));
                changesNothing(scene, "clerk(" + n % 3 + ", 0)", x -> x.clerk(what % 3, 0));
            }
            CHECK.sentence("15 to 21: in what follows nothing is changed");
            for (int n = 0; n <= 20; n++) {
                int days = n;
                changesNothing(scene, "ahead(" + n + ", 2)", x -> x.ahead(days, 2));
            }
            for (int l = 0; l < 6; l++) {
                int letter = l;
                changesNothing(scene, "hatches(" + l + ")", x -> x.hatches(letter));
                changesNothing(scene, "saved(" + l + ")", x -> x.saved(letter));
            }
            changesNothing(scene, "rows(true)", x -> x.rows(true));
            changesNothing(scene, "rows(false)", x -> x.rows(false));
            changesNothing(scene, "quiet()", x -> x.quiet());
            long[] rows = {0L, 2009_2009_0000_0000L, 1307_3001_3102_2005L, 1402_1500_0000_4000L, 9999_9999_9999_9999L};
            for (long row : rows) {
                changesNothing(scene, "judge(4, " + row + ")", x -> x.judge(4, row));
            }
            CHECK.sentence("21, 25: asked only");
            for (int c = 0; c < 3; c++) {
                int clerk = c;
                changesNothing(scene, "share(" + c + ", true)", x -> x.share(clerk, true));
                changesNothing(scene, "rests(" + c + ", .., 1)", x -> x.rests(clerk, (clerk + 1) % 3, 1));
            }
            CHECK.sentence("24, 26: asked only");
            changesNothing(scene, "may(0)", x -> x.may(0));
            changesNothing(scene, "may(1)", x -> x.may(1));
            changesNothing(scene, "hawks(1, 5, true)", x -> x.hawks(1, 5, true));
            CHECK.sentence("28: nothing changes but THE SEED");
            changesNothing(scene, "years(30), and the seed as it was", RefusalsTest::yearsAndSeedAsItWas);
            CHECK.sentence("3: only THE TEXT is empty");
            changesNothing(scene, "wipe(), and the text as it was", x -> rewrite(scene, x));
        }
    }

    private static void changesNothing(Scene scene, String call, Twins.Call how) {
        List<Long> looks = Twins.seen(Twins.behind(scene.maker, how));
        CHECK.due(call + " in " + scene.name + " changed something", looks.equals(scene.looks) ? 0 : 1, 0);
    }

    private static long yearsAndSeedAsItWas(PigeonMail x) {
        long was = x.seed(12345);
        x.years(30);
        return x.seed(was);
    }

    private static long rewrite(Scene scene, PigeonMail x) {
        List<Integer> text = new ArrayList<>();
        String known = scene == BUSY ? "M5La2" : scene == SMALL ? "M3La90Lb50C01"
                : scene == BRIM ? "M9La90La93Lh90Lh21C21C02" : "";
        for (char b : known.toCharArray()) {
            text.add((int) b);
        }
        while (text.size() < x.about(11)) {
            text.add((int) 'L');
        }
        x.wipe();
        for (int b : text) {
            x.write(b);
        }
        return x.about(11);
    }
}
