/** Promises 1 to 9 at their edges: one method a sentence of the document. */
public final class EdgesRoomTest {
    private static final Check CHECK = new Check("EdgesRoomTest");
    private static final int UNKNOWN = PigeonMail.UNKNOWN, BAD = PigeonMail.BAD, LATE = PigeonMail.LATE,
            FULL = PigeonMail.FULL, NONE = PigeonMail.NONE;
    private static final String SIX = "La10Lb10Lc10Ld10Le10Lf10", THREE = "C01C01C01", HOLES = "abcdefghijkl";

    public static void main(String[] args) {
        nothingAtFirst();
        aByteIs0To255();
        fortyEightBytesAtMost();
        wipedHowLongItWas();
        theRoomStaysWhenTheTextIsWiped();
        firstM();
        grain0To9();
        thingsNoneOrMore();
        letterHoleAToL();
        letterWait1To9();
        letterKind0To3();
        clerkRow0To2();
        clerkAnswers1To3();
        fewerThanTwoToldYetInAHole();
        sixLettersAtMost();
        threeClerksAtMost();
        lengthIfItIsOnlyNotAtItsEnd();
        whateverCameBehindIt();
        theFirstByte();
        tenTimesLettersAndClerks();
        numberedAsTheyAreTold();
        lateAtAnyFault();
        theTextItselfStays();
        noActsBehindRoom();
        whatWasKeptIsGone();
        toldAndTheSeedStay();
        allLieNoneWaitedDay0();
        fewerThanBefore();
        about0To11();
        aboutAtItsMost();
        pairsAreTwoOrMoreBirds();
        letter0To5();
        howManyItHasToWaitYet();
        halfOfTheWait();
        oneMoreForEachOther();
        zeroAtLeast();
        noneIfItDoesNotLie();
        clerk0To1();
        holes0To11();
        whoLiesOrIsHatchedInAHole();
        CHECK.end();
    }

    private static void due(String call, long got, long want) {
        CHECK.due(call, got, want);
    }

    // ---- promise 1

    private static void nothingAtFirst() {
        CHECK.sentence("1: no letters, no clerks; at first there is nothing, no GRAIN");
        PigeonMail x = new PigeonMail();
        for (int what = 0; what <= 11; what++) {
            due("about(" + what + ")", x.about(what), 0);
        }
        for (int n = 0; n < 6; n++) {
            due("letter(" + n + ", 0)", x.letter(n, 0), UNKNOWN);
            due("clerk(" + n % 3 + ", 0)", x.clerk(n % 3, 0), UNKNOWN);
            due("hatches(" + n + ")", x.hatches(n), UNKNOWN);
            due("saved(" + n + ")", x.saved(n), UNKNOWN);
            due("share(" + n % 3 + ", true)", x.share(n % 3, true), UNKNOWN);
        }
        for (int h = 0; h < 12; h++) {
            due("hole(" + h + ")", x.hole(h), 0);
        }
        due("fault()", x.fault(), 0);
        due("room()", x.room(), LATE);
        due("undo()", x.undo(), LATE);
        due("again(0)", x.again(0), LATE);
        due("again(1)", x.again(1), LATE);
        due("rows(false)", x.rows(false), 0);
        due("rows(true)", x.rows(true), 0);
        due("quiet()", x.quiet(), 0);
        due("may(0)", x.may(0), 36);
        due("hawks(0, 10, true)", x.hawks(0, 10, true), 1);
        due("hawks(1, 0, true)", x.hawks(1, 0, true), 0);
        due("seed(1)", x.seed(1), 0);
        due("wipe()", x.wipe(), 0);
        due("untell()", x.untell(), 0);
        due("keep(0)", x.keep(0), 0);
        due("day()", x.day(), 0);
    }

    // ---- promise 2, 3

    private static void aByteIs0To255() {
        CHECK.sentence("2: a byte (0 .. 255)");
        PigeonMail x = new PigeonMail();
        for (int b = 0; b <= 255; b++) {
            if (b % 48 == 0) {
                x.wipe();
            }
            due("write(" + b + ")", x.write(b), b % 48 + 1);
        }
        PigeonMail y = new PigeonMail();
        for (int b : Check.outside(0, 255)) {
            due("write(" + b + ")", y.write(b), BAD);
            due("about(11) behind write(" + b + ")", y.about(11), 0);
        }
        int[] likeM = {'M' + 256, 'M' - 256, 'M' + 65536, 'M' + (1 << 24), Integer.MIN_VALUE + 'M'};
        for (int b : likeM) {
            due("write(" + b + ")", y.write(b), BAD);
        }
        due("fault() behind refusals", y.fault(), 0);
    }

    private static void fortyEightBytesAtMost() {
        CHECK.sentence("2: how long it is; FULL: there are 48");
        PigeonMail x = new PigeonMail();
        for (int n = 1; n <= 48; n++) {
            due("write " + n, x.write('M'), n);
            due("about(11) behind write " + n, x.about(11), n);
        }
        due("write 49", x.write('M'), FULL);
        due("write 50", x.write(0), FULL);
        due("about(11)", x.about(11), 48);
        due("wipe()", x.wipe(), 48);
        due("write behind wipe", x.write('M'), 1);
        CHECK.sentence("2: it comes behind THE TEXT");
        due("write 2", x.write('7'), 2);
        due("fault()", x.fault(), NONE);
    }

    private static void wipedHowLongItWas() {
        CHECK.sentence("3: THE TEXT is empty: how long it was");
        PigeonMail x = new PigeonMail();
        for (int n = 0; n <= 48; n += n < 3 ? 1 : 15) {
            for (int i = 0; i < n; i++) {
                x.write('M');
            }
            due("wipe()", x.wipe(), n);
            due("wipe() again", x.wipe(), 0);
            due("about(11)", x.about(11), 0);
            due("fault()", x.fault(), 0);
        }
    }

    private static void theRoomStaysWhenTheTextIsWiped() {
        CHECK.sentence("3: THE TEXT is empty, THE ROOM stays");
        PigeonMail x = Check.roomOf("M5Ll93C23");
        x.feed(1);
        x.keep(1);
        due("wipe()", x.wipe(), 9);
        int[] about = {1, 1, 0, 6, 1, 0, 0, 0, 0, 1, 0, 0};
        for (int what = 0; what < about.length; what++) {
            due("about(" + what + ")", x.about(what), about[what]);
        }
        due("room()", x.room(), LATE);
        due("again(1)", x.again(1), 0);
    }

    // ---- promise 4

    /** Of all 256 bytes behind the text just the good ones are no fault; ends: behind them it is a room. */
    private static void goesOn(String text, String good, boolean ends) {
        for (int b = 0; b <= 255; b++) {
            PigeonMail x = new PigeonMail();
            Check.write(x, text);
            x.write(b);
            int want = good.indexOf(b) < 0 ? text.length() : ends ? NONE : text.length() + 1;
            due("fault() of '" + text + "' and byte " + b, x.fault(), want);
        }
    }

    private static void fault(String text, int want) {
        PigeonMail x = new PigeonMail();
        Check.write(x, text);
        due("fault() of '" + text + "'", x.fault(), want);
    }

    private static void firstM() {
        CHECK.sentence("4: M");
        fault("", 0);
        goesOn("", "M", false);
    }

    private static void grain0To9() {
        CHECK.sentence("4: GRAIN g (0 .. 9)");
        goesOn("M", "0123456789", true);
        for (int g = 0; g <= 9; g++) {
            due("about(3) of M" + g, Check.roomOf("M" + g).about(3), g);
        }
    }

    private static void thingsNoneOrMore() {
        CHECK.sentence("4: then THINGS, none or more");
        fault("M0", NONE);
        goesOn("M0", "LC", false);
        goesOn("M9La10", "LC", false);
        goesOn("M9C01", "LC", false);
        goesOn("M9C01La10", "LC", false);
    }

    private static void letterHoleAToL() {
        CHECK.sentence("4: HOLE h (a .. l: 0 .. 11)");
        goesOn("M0L", HOLES, false);
        goesOn("M0C23L", HOLES, false);
        for (int h = 0; h < 12; h++) {
            PigeonMail x = Check.roomOf("M0L" + HOLES.charAt(h) + "10");
            due("letter(0, 0) of hole " + HOLES.charAt(h), x.letter(0, 0), h);
        }
    }

    private static void letterWait1To9() {
        CHECK.sentence("4: WAIT w (1 .. 9)");
        goesOn("M0Ll", "123456789", false);
        for (int w = 1; w <= 9; w++) {
            due("letter(0, 1) of wait " + w, Check.roomOf("M0La" + w + "0").letter(0, 1), w);
        }
    }

    private static void letterKind0To3() {
        CHECK.sentence("4: KIND k (0 .. 3)");
        goesOn("M0La1", "0123", true);
        goesOn("M0La9", "0123", true);
        for (int k = 0; k <= 3; k++) {
            due("letter(0, 2) of kind " + k, Check.roomOf("M0La1" + k).letter(0, 2), k);
        }
    }

    private static void clerkRow0To2() {
        CHECK.sentence("4: ROW r (0 .. 2)");
        goesOn("M0C", "012", false);
        for (int r = 0; r <= 2; r++) {
            due("clerk(0, 0) of row " + r, Check.roomOf("M0C" + r + "1").clerk(0, 0), r);
        }
    }

    private static void clerkAnswers1To3() {
        CHECK.sentence("4: n (1 .. 3) LETTERS a day");
        goesOn("M0C0", "123", true);
        goesOn("M0C2", "123", true);
        for (int n = 1; n <= 3; n++) {
            due("clerk(0, 1) of " + n, Check.roomOf("M0C0" + n).clerk(0, 1), n);
        }
    }

    private static void fewerThanTwoToldYetInAHole() {
        CHECK.sentence("4: where fewer than two are told yet");
        for (int h = 0; h < 12; h++) {
            String one = "L" + HOLES.charAt(h) + "10";
            String others = HOLES.replace("" + HOLES.charAt(h), "");
            goesOn("M0" + one + "L", HOLES, false);
            goesOn("M0" + one + one + "L", others, false);
            String between = "M0" + one + "C01L" + others.charAt(h % 11) + "93" + one + "C12L";
            goesOn(between, others, false);
            fault("M0" + one + one, NONE);
        }
        goesOn("M0La10La20Lb13Lb13L", "cdefghijkl", false);
        goesOn("M0La10Lb10La10Lc10Lb10L", "cdefghijkl", false);
        fault("M0La10La10Lb10Lb10Lc10Lc10", NONE);
        fault("M0La10La10Lb10Lb10Lc10Lb10", 23);
    }

    private static void sixLettersAtMost() {
        CHECK.sentence("4: LETTERS (6 at most)");
        fault("M0" + SIX, NONE);
        goesOn("M0" + SIX.substring(0, 20), "LC", false);
        goesOn("M0" + SIX, "C", false);
        goesOn("M0" + SIX + "C01", "C", false);
        goesOn("M0C01C01" + SIX, "C", false);
    }

    private static void threeClerksAtMost() {
        CHECK.sentence("4: CLERKS (3 at most)");
        fault("M0" + THREE, NONE);
        goesOn("M0C01C01", "LC", false);
        goesOn("M0" + THREE, "L", false);
        goesOn("M0" + THREE + SIX.substring(0, 20), "L", false);
        fault("M0" + THREE + SIX, NONE);
        goesOn("M0" + THREE + SIX, "", false);
        goesOn("M0" + SIX + THREE, "", false);
    }

    private static void lengthIfItIsOnlyNotAtItsEnd() {
        CHECK.sentence("4: its length, if it is only not at its end");
        String text = "M0C01La10C12Lb20C23Lc30Ld40Le50Lf60";
        String ends = "2 5 9 12 16 19 23 27 31 35 ";
        for (int n = 0; n <= text.length(); n++) {
            boolean isRoom = (" " + ends).contains(" " + n + " ");
            fault(text.substring(0, n), isRoom ? NONE : n);
        }
    }

    private static void whateverCameBehindIt() {
        CHECK.sentence("4: whatever came behind it (its length set aside)");
        String[] spoilt = {"X", "Mx", "M0X", "M0Lm", "M0La0", "M0La14", "M0C3", "M0C04", "M0La10La10La",
            "M0" + SIX + "L", "M0" + THREE + "C", "M0" + SIX + THREE + "X"};
        for (String s : spoilt) {
            PigeonMail x = new PigeonMail();
            Check.write(x, s);
            for (int i = 0; i <= 48 - s.length(); i++) {
                due("fault() of '" + s + "' and " + i + " bytes", x.fault(), s.length() - 1);
                x.write("10LaC01M".charAt(i % 8));
            }
            due("about(11)", x.about(11), 48);
        }
    }

    private static void theFirstByte() {
        CHECK.sentence("4: the first byte by which it can be no ROOM");
        fault("xy", 0);
        fault("M0La0xLm", 4);
        fault("M0La1xLa0", 5);
        fault("M0La10La10La0x", 11);
        fault("MM0", 1);
        fault("0M0", 0);
        fault("M0La10xC", 6);
        fault("m0La10", 0);
        fault("M0lA10", 2);
    }

    // ---- promise 5

    private static void tenTimesLettersAndClerks() {
        CHECK.sentence("5: 10 times LETTERS, and CLERKS");
        for (int letters = 0; letters <= 6; letters++) {
            for (int clerks = 0; clerks <= 3; clerks++) {
                String one = SIX.substring(0, 4 * letters);
                String other = THREE.substring(0, 3 * clerks);
                due("room()", roomAnswer("M0" + one + other), 10 * letters + clerks);
                due("room()", roomAnswer("M0" + other + one), 10 * letters + clerks);
            }
        }
    }

    private static int roomAnswer(String text) {
        PigeonMail x = new PigeonMail();
        Check.write(x, text);
        return x.room();
    }

    private static void numberedAsTheyAreTold() {
        CHECK.sentence("5: numbered as they are told, each kind for itself");
        PigeonMail x = Check.roomOf("M0C23Lf13C11La92Ll51C02");
        int[][] letters = {{5, 1, 3}, {0, 9, 2}, {11, 5, 1}};
        int[][] clerks = {{2, 3}, {1, 1}, {0, 2}};
        for (int n = 0; n < 3; n++) {
            for (int what = 0; what < 3; what++) {
                due("letter(" + n + ", " + what + ")", x.letter(n, what), letters[n][what]);
            }
            for (int what = 0; what < 2; what++) {
                due("clerk(" + n + ", " + what + ")", x.clerk(n, what), clerks[n][what]);
            }
        }
    }

    private static void lateAtAnyFault() {
        CHECK.sentence("5: LATE: a FAULT");
        String[] spoilt = {"", "M", "x", "M0L", "M0La", "M0La1", "M0C", "M0C0", "M0X", "M0La10La10La10",
            "M0" + SIX + "Lg10", "M0" + THREE + "C01", "M0La10C"};
        for (String s : spoilt) {
            due("room() of '" + s + "'", roomAnswer(s), LATE);
        }
        PigeonMail x = Check.roomOf("M7La10C11");
        x.day();
        x.write('C');
        due("room() of what is not at its end", x.room(), LATE);
        due("about(2)", x.about(2), 1);
        due("about(3)", x.about(3), 6);
        due("about(9)", x.about(9), 1);
        x.write('2');
        due("room() yet", x.room(), LATE);
        x.write('2');
        due("room() at its end", x.room(), 12);
    }

    private static void theTextItselfStays() {
        CHECK.sentence("5: THE TEXT itself stays");
        PigeonMail x = Check.roomOf("M7La10C11");
        due("about(11)", x.about(11), 9);
        due("fault()", x.fault(), NONE);
        due("room() again", x.room(), 11);
        x.write('L');
        due("fault()", x.fault(), 10);
        due("wipe()", x.wipe(), 10);
    }

    private static void noActsBehindRoom() {
        CHECK.sentence("5: no ACTS");
        for (int acts = 0; acts <= 16; acts++) {
            PigeonMail x = Check.roomOf("M0");
            for (int i = 0; i < acts; i++) {
                x.feed(1);
            }
            x.room();
            due("about(9) behind " + acts, x.about(9), 0);
            due("undo() behind " + acts, x.undo(), LATE);
            due("about(3) behind " + acts, x.about(3), 0);
            x.feed(5);
            due("undo() of one", x.undo(), 0);
            due("about(3) undone", x.about(3), 0);
        }
    }

    private static void whatWasKeptIsGone() {
        CHECK.sentence("5: what was kept is gone");
        for (int slots = 0; slots < 4; slots++) {
            PigeonMail x = Check.roomOf("M0La10");
            for (int s = 0; s < 2; s++) {
                if ((slots >> s & 1) == 1) {
                    x.keep(s);
                }
            }
            x.room();
            due("again(0) behind keeping " + slots, x.again(0), LATE);
            due("again(1) behind keeping " + slots, x.again(1), LATE);
        }
        PigeonMail x = new PigeonMail();
        x.keep(0);
        Check.write(x, "M3");
        x.room();
        due("again(0), kept ahead of the first room", x.again(0), LATE);
    }

    private static void toldAndTheSeedStay() {
        CHECK.sentence("5: TOLD, THE SEED stay");
        for (int told = 0; told <= 6; told++) {
            PigeonMail x = Check.roomOf("M0La10");
            for (int i = 0; i < told; i++) {
                x.tell(3, 0);
            }
            x.seed(Long.MIN_VALUE + told);
            x.room();
            due("about(10)", x.about(10), told);
            due("may(0)", x.may(0), told == 0 ? 36 : 20);
            due("seed(0)", x.seed(0), Long.MIN_VALUE + told);
        }
    }

    private static void allLieNoneWaitedDay0() {
        CHECK.sentence("5: all LETTERS lie, none waited yet, THE DAY is 0");
        PigeonMail x = Check.roomOf("M2La10Lb10Lc10Le10Li11Li90C11C01");
        x.send(1, 2);
        x.day();
        x.put(5, 0);
        x.feed(9);
        due("it is not as it was", x.about(4), 32);
        due("room()", x.room(), 62);
        int[] holes = {0, 1, 2, 4, 8, 8};
        for (int l = 0; l < 6; l++) {
            due("letter(" + l + ", 0)", x.letter(l, 0), holes[l]);
            due("letter(" + l + ", 3)", x.letter(l, 3), 0);
            due("letter(" + l + ", 4)", x.letter(l, 4), 0);
        }
        due("clerk(1, 0)", x.clerk(1, 0), 0);
        int[] about = {6, 2, 0, 2, 63, 0, 0, 0, 0, 0, 0, 32};
        for (int what = 0; what < about.length; what++) {
            due("about(" + what + ")", x.about(what), about[what]);
        }
    }

    private static void fewerThanBefore() {
        CHECK.sentence("5: of what was there nothing stays");
        PigeonMail x = Check.roomOf("M9" + SIX + THREE);
        x.day();
        Check.write(x, "M1Lk20C21");
        due("room()", x.room(), 11);
        due("letter(1, 0)", x.letter(1, 0), UNKNOWN);
        due("clerk(1, 0)", x.clerk(1, 0), UNKNOWN);
        for (int h = 0; h < 12; h++) {
            due("hole(" + h + ")", x.hole(h), h == 10 ? 1 : 0);
        }
        due("about(4)", x.about(4), 1);
        due("about(6)", x.about(6), 0);
        due("about(7)", x.about(7), 0);
        Check.write(x, "M0");
        due("room() of nothing", x.room(), 0);
        due("letter(0, 0)", x.letter(0, 0), UNKNOWN);
        due("clerk(0, 0)", x.clerk(0, 0), UNKNOWN);
        due("about(4)", x.about(4), 0);
    }

    // ---- promise 6

    private static void about0To11() {
        CHECK.sentence("6: what = 0 .. 11; BAD");
        PigeonMail x = Check.roomOf("M3La10La10Le10Lf90Li90C11");
        x.tell(1, 1);
        x.day();
        x.day();
        x.write('C');
        int[] about = {5, 1, 2, 0, 16, 12, 1, 2, 0, 2, 1, 26};
        for (int what = 0; what < about.length; what++) {
            due("about(" + what + ")", x.about(what), about[what]);
        }
        for (int what : Check.outside(0, 11)) {
            due("about(" + what + ")", x.about(what), BAD);
        }
    }

    private static void aboutAtItsMost() {
        CHECK.sentence("6: each at its most");
        PigeonMail x = Check.roomOf("M9" + SIX + THREE);
        due("about(0)", x.about(0), 6);
        due("about(1)", x.about(1), 3);
        due("about(4)", x.about(4), 63);
        for (int c = 0; c < 3; c++) {
            x.send(c, 2);
        }
        x.day();
        due("about(6): all are hatched", x.about(6), 63);
        due("about(3): six ate", x.about(3), 3);
        due("about(4): none lies", x.about(4), 0);
        x.day();
        x.day();
        due("about(7): all are flown", x.about(7), 63);
        due("about(6): none is hatched", x.about(6), 0);
        PigeonMail y = Check.roomOf("M9La10Lb10Lc10Ld10La10Lb10C03C03");
        y.day();
        due("about(5): all are answered", y.about(5), 63);
        for (int i = 0; i < 20; i++) {
            y.feed(9);
            y.tell(1, 1);
            y.write(0);
            due("about(9)", y.about(9), Math.min(14, i + 2));
            due("about(10)", y.about(10), Math.min(6, i + 1));
            due("about(11)", y.about(11), Math.min(48, 33 + i));
            due("about(3)", y.about(3), Math.min(99, 9 * (i + 2)));
        }
    }

    private static void pairsAreTwoOrMoreBirds() {
        CHECK.sentence("6: PAIRS: HOLES in which two birds are HATCHED, or more");
        for (int h = 0; h < 12; h++) {
            String one = "L" + HOLES.charAt(h) + "10";
            String other = "L" + HOLES.charAt((h + 1) % 12) + "10";
            due("two lie in " + h, Check.roomOf("M9" + one + one).about(8), 0);
            due("two birds in " + h, behindADay("M9" + one + one).about(8), 1 << h);
            due("one bird in " + h + ", one beside it", behindADay("M9" + one + other).about(8), 0);
            due("one bird in " + h, behindADay("M9" + one).about(8), 0);
            String lies = one.replace("10", "90");
            due("a bird and a letter in " + h, behindADay("M9" + one + lies).about(8), 0);
            due("a bird and one flown in " + h, behindADay("M1" + one + one).about(8), 0);
            due("two flown in " + h, behindADay("M0" + one + one).about(8), 0);
        }
        due("three pairs", behindADay("M9La10La10Lf10Lf10Ll10Ll10").about(8), 1 + 32 + 2048);
        PigeonMail three = Check.roomOf("M9Le11Le20La20La20");
        Check.days(three, 2);
        due("three birds: they are there", three.hole(0), 14);
        due("three birds", three.about(8), 1);
        PigeonMail answered = behindADay("M9La10La10C01");
        due("a bird and one answered", answered.about(8), 0);
    }

    private static PigeonMail behindADay(String text) {
        return Check.behind(text, 1);
    }

    // ---- promise 7

    private static void letter0To5() {
        CHECK.sentence("7: what = 0 .. 5; UNKNOWN; BAD");
        for (int letters = 0; letters <= 6; letters++) {
            PigeonMail x = Check.roomOf("M9" + SIX.substring(0, 4 * letters));
            for (int l = 0; l < letters; l++) {
                int[] want = {l, 1, 0, 0, 0, 1};
                for (int what = 0; what < want.length; what++) {
                    due("letter(" + l + ", " + what + ")", x.letter(l, what), want[what]);
                }
                due("letter(" + l + ", 6)", x.letter(l, 6), BAD);
                due("letter(" + l + ", -1)", x.letter(l, -1), BAD);
                due("letter(" + l + ", least)", x.letter(l, Integer.MIN_VALUE), BAD);
                due("letter(" + l + ", greatest)", x.letter(l, Integer.MAX_VALUE), BAD);
            }
            for (int l : Check.outside(0, letters - 1)) {
                due("letter(" + l + ", 1) of " + letters, x.letter(l, 1), UNKNOWN);
            }
        }
    }

    private static void howManyItHasToWaitYet() {
        CHECK.sentence("7: how many DAYS it has waited, how many it has to wait yet");
        for (int w = 1; w <= 9; w++) {
            for (int k = 0; k <= 3; k++) {
                PigeonMail x = Check.roomOf("M9Lg" + w + k);
                int needs = k == 2 ? Math.max(1, w / 2) : w;
                for (int d = 0; d < needs; d++) {
                    due("letter(0, 4) of " + w + k, x.letter(0, 4), d);
                    due("letter(0, 5) of " + w + k, x.letter(0, 5), needs - d);
                    due("letter(0, 3) of " + w + k, x.letter(0, 3), 0);
                    x.day();
                }
                due("letter(0, 3) of " + w + k, x.letter(0, 3), 2);
                due("letter(0, 4) of " + w + k, x.letter(0, 4), needs);
                x.day();
                due("letter(0, 4), birds wait no more", x.letter(0, 4), needs);
            }
        }
    }

    private static void halfOfTheWait() {
        CHECK.sentence("7: TELEGRAM: half of that (cut, 1 at least)");
        int[] half = {1, 1, 1, 2, 2, 3, 3, 4, 4};
        for (int w = 1; w <= 9; w++) {
            due("letter(0, 5) of wait " + w, Check.roomOf("M9La" + w + "2").letter(0, 5), half[w - 1]);
            due("letter(0, 1) of wait " + w, Check.roomOf("M9La" + w + "2").letter(0, 1), w);
        }
        due("with company, too", Check.roomOf("M9La92La93").letter(0, 5), 4);
    }

    private static void oneMoreForEachOther() {
        CHECK.sentence("7: PETITION: 1 more for each other LETTER that LIES in its HOLE");
        due("none", Check.roomOf("M9La93Lb90Le90").letter(0, 5), 9);
        for (int k = 0; k <= 3; k++) {
            due("one of kind " + k, Check.roomOf("M9La93La9" + k).letter(0, 5), 10);
        }
        due("a plain one has no more", Check.roomOf("M9La90La93").letter(0, 5), 9);
        due("an urgent one has no more", Check.roomOf("M9La91La93").letter(0, 5), 9);
        // Letter 0 puts letter 1 on letters 2 and 3, of which 2 puts all out to letters 4 and 5.
        PigeonMail four = behindADay("M9Li11Li90Le11Le93La90La93");
        due("four are there", four.hole(0), 2 + 8 + 16 + 32);
        due("three others, letter 3", four.letter(3, 5), 9 + 3 - 1);
        due("three others, letter 5", four.letter(5, 5), 9 + 3 - 1);
        PigeonMail three = behindADay("M9Le11Le93La90La93");
        due("two others, letter 1", three.letter(1, 5), 9 + 2 - 1);
        due("two others, letter 3", three.letter(3, 5), 9 + 2 - 1);
        due("one is hatched", behindADay("M9La93La10").letter(0, 5), 8);
        due("one is flown", behindADay("M0La93La10").letter(0, 5), 8);
        due("one is answered", behindADay("M9La93La10C01").letter(0, 5), 8);
        PigeonMail put = Check.roomOf("M9La93Lb90");
        put.put(1, 0);
        due("one is put there", put.letter(0, 5), 10);
        put.put(1, 11);
        due("it is put away", put.letter(0, 5), 9);
    }

    private static void zeroAtLeast() {
        CHECK.sentence("7: 0 at least");
        PigeonMail one = behindADay("M9La13La90");
        due("in company: 1", one.letter(0, 5), 1);
        one.put(1, 1);
        due("alone it has waited as long as it needs: 0", one.letter(0, 5), 0);
        // The cuckoo puts letter 5 out to letters 2 and 3, so that petition 2 waits longer than it needs alone.
        PigeonMail two = Check.roomOf("M9Lf23Lf90Le23Le90Li11Li90");
        Check.days(two, 2);
        due("letter 2 has waited", two.letter(2, 4), 2);
        due("three are there", two.hole(4), 4 + 8 + 32);
        due("letter 2 lies yet", two.letter(2, 5), 2);
        two.day();
        due("letter 2 has waited 3", two.letter(2, 4), 3);
        due("letter 2 lies yet", two.letter(2, 5), 1);
        due("put of letter 2", two.put(2, 0), 4);
        due("0, not 2 - 3", two.letter(2, 5), 0);
        due("it lies", two.letter(2, 3), 0);
        due("it hatches on the next day", two.day(), 1);
    }

    private static void noneIfItDoesNotLie() {
        CHECK.sentence("7: NONE: it does not LIE");
        PigeonMail x = behindADay("M1La10Lb10Le10Li90C11");
        int[] fates = {2, 3, 1, 0};
        int[] yet = {NONE, NONE, NONE, 8};
        for (int l = 0; l < 4; l++) {
            due("letter(" + l + ", 3)", x.letter(l, 3), fates[l]);
            due("letter(" + l + ", 5)", x.letter(l, 5), yet[l]);
        }
        x.undo();
        for (int l = 0; l < 4; l++) {
            due("letter(" + l + ", 3) undone", x.letter(l, 3), 0);
            due("letter(" + l + ", 5) undone", x.letter(l, 5), l == 3 ? 9 : 1);
        }
    }

    // ---- promises 8, 9

    private static void clerk0To1() {
        CHECK.sentence("8: what = 0, 1; UNKNOWN; BAD");
        for (int clerks = 0; clerks <= 3; clerks++) {
            PigeonMail x = Check.roomOf("M9" + "C03C12C21".substring(0, 3 * clerks));
            for (int c = 0; c < clerks; c++) {
                due("clerk(" + c + ", 0)", x.clerk(c, 0), c);
                due("clerk(" + c + ", 1)", x.clerk(c, 1), 3 - c);
                for (int what : Check.outside(0, 1)) {
                    due("clerk(" + c + ", " + what + ")", x.clerk(c, what), BAD);
                }
            }
            for (int c : Check.outside(0, clerks - 1)) {
                due("clerk(" + c + ", 0) of " + clerks, x.clerk(c, 0), UNKNOWN);
                due("clerk(" + c + ", 1) of " + clerks, x.clerk(c, 1), UNKNOWN);
                due("clerk(" + c + ", 2) of " + clerks, x.clerk(c, 2), UNKNOWN);
            }
        }
    }

    private static void holes0To11() {
        CHECK.sentence("9: HOLES are 0 .. 11; UNKNOWN");
        for (int h = 0; h < 12; h++) {
            PigeonMail x = Check.roomOf("M9L" + HOLES.charAt(h) + "10");
            for (int other = 0; other < 12; other++) {
                due("hole(" + other + ")", x.hole(other), other == h ? 1 : 0);
            }
            for (int other : Check.outside(0, 11)) {
                due("hole(" + other + ")", x.hole(other), UNKNOWN);
            }
        }
    }

    private static void whoLiesOrIsHatchedInAHole() {
        CHECK.sentence("9: LETTERS that LIE or are HATCHED in a HOLE, as bits");
        PigeonMail x = Check.roomOf("M1Ll90Ll10La10La90Le10Le90C12");
        due("hole(11)", x.hole(11), 3);
        due("hole(0)", x.hole(0), 12);
        due("hole(4)", x.hole(4), 48);
        x.day();
        due("one lies, one is hatched", x.hole(11), 3);
        due("one is flown, one lies", x.hole(0), 8);
        due("both are answered", x.hole(4), 0);
        due("room for two where none is seen", x.put(0, 4) + x.put(3, 4), 11);
        due("both lie there", x.hole(4), 1 + 8);
    }
}
