/** Promises 1 to 9: a new object, the text, the room and what is asked of it. */
public final class RoomTest {
    private static final Check CHECK = new Check("RoomTest");

    public static void main(String[] args) {
        constants();
        newObject();
        writing();
        wiping();
        faults();
        rooms();
        roomStaysOrGoes();
        abouts();
        letters();
        clerks();
        holes();
        CHECK.end();
    }

    private static void due(String call, long got, long want) {
        CHECK.due(call, got, want);
    }

    private static void constants() {
        due("UNKNOWN", PigeonMail.UNKNOWN, -1);
        due("BAD", PigeonMail.BAD, -2);
        due("LATE", PigeonMail.LATE, -3);
        due("FULL", PigeonMail.FULL, -4);
        due("NONE", PigeonMail.NONE, -9);
    }

    private static void newObject() {
        PigeonMail x = new PigeonMail();
        for (int what = 0; what <= 11; what++) {
            due("1: about(" + what + ") of nothing", x.about(what), 0);
        }
        due("1: letter(0, 0)", x.letter(0, 0), PigeonMail.UNKNOWN);
        due("1: clerk(0, 0)", x.clerk(0, 0), PigeonMail.UNKNOWN);
        due("1: hole(11)", x.hole(11), 0);
        due("1: fault()", x.fault(), 0);
        due("1: undo()", x.undo(), PigeonMail.LATE);
        due("1: again(0)", x.again(0), PigeonMail.LATE);
        due("1: again(1)", x.again(1), PigeonMail.LATE);
        due("1: seed(0)", x.seed(0), 0);
        due("1: may(0)", x.may(0), 36);
        due("1: day()", x.day(), 0);
        due("1: about(2) behind a day", x.about(2), 1);
        due("1: keep(0)", x.keep(0), 1);
    }

    private static void writing() {
        PigeonMail x = new PigeonMail();
        int[] bad = {-1, 256, Integer.MIN_VALUE, Integer.MAX_VALUE};
        for (int b : bad) {
            due("2: write(" + b + ")", x.write(b), PigeonMail.BAD);
        }
        due("2: about(11) behind refusals", x.about(11), 0);
        due("2: write(0)", x.write(0), 1);
        due("2: write(255)", x.write(255), 2);
        for (int n = 3; n <= 48; n++) {
            due("2: write " + n, x.write('M'), n);
        }
        due("2: write when full", x.write('M'), PigeonMail.FULL);
        due("2: BAD is told ahead of FULL", x.write(256), PigeonMail.BAD);
        due("2: about(11) when full", x.about(11), 48);
        due("2: fault() of a full text", x.fault(), 0);
        due("2: wipe()", x.wipe(), 48);
        due("2: write anew", x.write('M'), 1);
    }

    private static void wiping() {
        PigeonMail x = Check.roomOf("M5La10C01");
        due("3: wipe()", x.wipe(), 9);
        due("3: wipe() again", x.wipe(), 0);
        due("3: about(11)", x.about(11), 0);
        due("3: about(0): the room stays", x.about(0), 1);
        due("3: about(3): the grain stays", x.about(3), 5);
        due("3: fault() of the empty text", x.fault(), 0);
    }

    private static void fault(String text, int want) {
        PigeonMail x = new PigeonMail();
        Check.write(x, text);
        due("4: fault() of '" + text + "'", x.fault(), want);
        due("4: fault() again of '" + text + "'", x.fault(), want);
        due("5: room() of '" + text + "'", Math.min(0, x.room()), want == PigeonMail.NONE ? 0 : PigeonMail.LATE);
        due("4: about(11) behind fault() of '" + text + "'", x.about(11), text.length());
    }

    private static void faults() {
        int none = PigeonMail.NONE;
        fault("", 0);
        fault("m", 0);
        fault("M", 1);
        fault("M/", 1);
        fault("M:", 1);
        fault("M0", none);
        fault("M9", none);
        fault("M00", 2);
        fault("M0 ", 2);
        fault("M0L", 3);
        fault("M0La", 4);
        fault("M0La1", 5);
        fault("M0La10", none);
        fault("M0Ll93", none);
        fault("M0L`", 3);
        fault("M0Lm", 3);
        fault("M0LA", 3);
        fault("M0La0", 4);
        fault("M0La:", 4);
        fault("M0La1/", 5);
        fault("M0La14", 5);
        fault("M0C", 3);
        fault("M0C0", 4);
        fault("M0C01", none);
        fault("M0C23", none);
        fault("M0C/", 3);
        fault("M0C3", 3);
        fault("M0C00", 4);
        fault("M0C04", 4);
        fault("M0C01M", 5);
        fault("M0La10La10", none);
        fault("M0La10La10La10", 11);
        fault("M0La10Lb10La10Lb10Lc10Lb", 23);
        fault("M0La10Lb10Lc10Ld10Le10Lf10", none);
        fault("M0La10Lb10Lc10Ld10Le10Lf10L", 26);
        fault("M0C01C01C01", none);
        fault("M0C01C01C01C", 11);
        fault("M0C01La10C12Lb20C23Lc30Ld40Le50Lf60", none);
        fault("M0C01La10C12Lb20C23Lc30Ld40Le50Lf60X", 35);
        fault("M0C01La10C12Lb20C23Lc30Ld40Le50Lf60XYZ", 35);
        fault("M0" + (char) 0, 2);
        fault("M0L" + (char) 225, 3);
    }

    private static void rooms() {
        due("5: 10 times letters and clerks", roomAnswer("M0"), 0);
        due("5: clerks alone", roomAnswer("M0C01C01C01"), 3);
        due("5: letters alone", roomAnswer("M0La10Lb10Lc10Ld10Le10Lf10"), 60);
        due("5: both, mixed", roomAnswer("M0C01La10C12Lb20C23Lc30Ld40Le50Lf60"), 63);
        due("5: two and one", roomAnswer("M7Ll12C23La93"), 21);
    }

    private static int roomAnswer(String text) {
        PigeonMail x = new PigeonMail();
        Check.write(x, text);
        return x.room();
    }

    private static void roomStaysOrGoes() {
        PigeonMail x = Check.roomOf("M4La90Lb10Lc20C01");
        x.send(0, 1);
        x.put(2, 5);
        x.day();
        x.feed(2);
        x.tell(3, 1);
        x.seed(77);
        x.keep(0);
        x.keep(1);
        x.write('X');
        due("5: LATE", x.room(), PigeonMail.LATE);
        due("5: LATE changes nothing: acts", x.about(9), 4);
        due("5: LATE changes nothing: slots", x.again(0), 1);
        due("5: it has waited", x.letter(0, 4), 1);
        Check.write(x, "M4La90Lb10Lc20C01");
        x.day();
        due("5: made anew", x.room(), 31);
        due("5: made anew: the text stays", x.about(11), 17);
        due("5: made anew: no acts", x.about(9), 0);
        due("5: made anew: nothing to undo", x.undo(), PigeonMail.LATE);
        due("5: made anew: the day", x.about(2), 0);
        due("5: made anew: grain", x.about(3), 4);
        due("5: made anew: they lie", x.about(4), 7);
        due("5: made anew: its hole", x.letter(2, 0), 2);
        due("5: made anew: not waited", x.letter(0, 4), 0);
        due("5: made anew: not waited", x.letter(1, 4), 0);
        due("5: made anew: clerk's row", x.clerk(0, 0), 0);
        due("5: made anew: slot 0 is gone", x.again(0), PigeonMail.LATE);
        due("5: made anew: slot 1 is gone", x.again(1), PigeonMail.LATE);
        due("5: made anew: told stays", x.about(10), 1);
        due("5: made anew: the seed stays", x.seed(0), 77);
        Check.write(x, "M0");
        due("5: an empty room", x.room(), 0);
        due("5: no letter is left", x.letter(0, 0), PigeonMail.UNKNOWN);
        due("5: no clerk is left", x.clerk(0, 0), PigeonMail.UNKNOWN);
        due("5: none lies", x.about(4), 0);
    }

    private static void abouts() {
        PigeonMail x = Check.roomOf("M2Ll11Ll12La90Lb10Lc50C11C01");
        due("6: letters", x.about(0), 5);
        due("6: clerks", x.about(1), 2);
        due("6: who lies at first", x.about(4), 31);
        due("6: a day: the clerk answers letter 3", x.day(), 2);
        due("6: the day", x.about(2), 1);
        due("6: grain: two birds ate", x.about(3), 0);
        due("6: who lies", x.about(4), 4 + 16);
        due("6: answered", x.about(5), 8);
        due("6: hatched", x.about(6), 1 + 2);
        due("6: flown: none", x.about(7), 0);
        // The urgent one put out the telegram first, so that they are no pair.
        due("6: pairs", x.about(8), 0);
        due("6: acts", x.about(9), 1);
        x.day();
        due("6: flown", x.about(7), 3);
        due("6: hatched: none", x.about(6), 0);
        x.tell(1, 1);
        x.tell(1, 1);
        due("6: told", x.about(10), 2);
        due("6: bytes", x.about(11), 28);
        int[] bad = {-1, 12, Integer.MIN_VALUE, Integer.MAX_VALUE};
        for (int b : bad) {
            due("6: about(" + b + ")", x.about(b), PigeonMail.BAD);
        }
        pairs();
    }

    private static void pairs() {
        PigeonMail x = Check.roomOf("M5La10La10Ll10Ll10Lg10");
        due("6: no pairs of letters that lie", x.about(8), 0);
        x.day();
        due("6: two pairs", x.about(8), 1 + 2048);
        x.day();
        due("6: flown birds are no pair", x.about(8), 0);
        PigeonMail three = Check.roomOf("M9Le11Le30La30La30");
        Check.days(three, 3);
        due("6: three in a hole", three.hole(0), 2 + 4 + 8);
        due("6: three are a pair, too", three.about(8), 1);
    }

    private static void letters() {
        PigeonMail x = Check.roomOf("M9La93Ll72La11");
        due("7: hole of 0", x.letter(0, 0), 0);
        due("7: hole of 1", x.letter(1, 0), 11);
        due("7: wait", x.letter(1, 1), 7);
        due("7: kind", x.letter(1, 2), 2);
        due("7: kind of 0", x.letter(0, 2), 3);
        due("7: what it is", x.letter(0, 3), 0);
        due("7: waited", x.letter(0, 4), 0);
        due("7: a petition waits for company", x.letter(0, 5), 10);
        due("7: a telegram waits half", x.letter(1, 5), 3);
        due("7: an urgent one waits as told", x.letter(2, 5), 1);
        x.day();
        due("7: hatched", x.letter(2, 3), 2);
        due("7: hatched: waited", x.letter(2, 4), 1);
        due("7: hatched: nothing to wait", x.letter(2, 5), PigeonMail.NONE);
        due("7: hatched: its hole", x.letter(2, 0), 0);
        due("7: alone now", x.letter(0, 5), 8);
        due("7: waited one", x.letter(1, 4), 1);
        due("7: two to wait", x.letter(1, 5), 2);
        due("7: UNKNOWN", x.letter(3, 0), PigeonMail.UNKNOWN);
        due("7: UNKNOWN", x.letter(-1, 0), PigeonMail.UNKNOWN);
        due("7: UNKNOWN", x.letter(Integer.MAX_VALUE, 0), PigeonMail.UNKNOWN);
        due("7: UNKNOWN", x.letter(Integer.MIN_VALUE, 0), PigeonMail.UNKNOWN);
        due("7: UNKNOWN is told ahead of BAD", x.letter(3, 6), PigeonMail.UNKNOWN);
        due("7: BAD", x.letter(0, 6), PigeonMail.BAD);
        due("7: BAD", x.letter(0, -1), PigeonMail.BAD);
        overdueAndOut();
    }

    private static void overdueAndOut() {
        PigeonMail x = Check.roomOf("M0La13La11Li12C21");
        x.day();
        due("7: it has waited long enough, and lies", x.letter(0, 5), 0);
        due("7: it lies", x.letter(0, 3), 0);
        due("7: answered", x.letter(2, 3), 1);
        due("7: answered: not waited", x.letter(2, 4), 0);
        due("7: answered: nothing to wait", x.letter(2, 5), PigeonMail.NONE);
        due("7: flown", x.letter(1, 3), 3);
        due("7: flown: nothing to wait", x.letter(1, 5), PigeonMail.NONE);
        PigeonMail late = Check.roomOf("M9La13La43");
        late.day();
        late.put(1, 1);
        due("7: 0 at least", late.letter(0, 5), 0);
        PigeonMail halves = Check.roomOf("M9La12Lb22Lc32Ld42Le82Lf92");
        int[] half = {1, 1, 1, 2, 4, 4};
        for (int l = 0; l < 6; l++) {
            due("7: half of a telegram's wait " + l, halves.letter(l, 5), half[l]);
        }
    }

    private static void clerks() {
        PigeonMail x = Check.roomOf("M0C21C03");
        due("8: row", x.clerk(0, 0), 2);
        due("8: answers", x.clerk(0, 1), 1);
        due("8: row of 1", x.clerk(1, 0), 0);
        due("8: answers of 1", x.clerk(1, 1), 3);
        x.send(1, 1);
        due("8: row when sent", x.clerk(1, 0), 1);
        due("8: UNKNOWN", x.clerk(2, 0), PigeonMail.UNKNOWN);
        due("8: UNKNOWN", x.clerk(-1, 0), PigeonMail.UNKNOWN);
        due("8: UNKNOWN is told ahead of BAD", x.clerk(2, 2), PigeonMail.UNKNOWN);
        due("8: BAD", x.clerk(0, 2), PigeonMail.BAD);
        due("8: BAD", x.clerk(0, -1), PigeonMail.BAD);
    }

    private static void holes() {
        PigeonMail x = Check.roomOf("M1La10La10Lf90C11");
        due("9: two lie", x.hole(0), 3);
        due("9: one lies", x.hole(5), 4);
        due("9: none", x.hole(11), 0);
        x.day();
        due("9: one is hatched, one flown", x.hole(0), 1);
        due("9: answered ones are not there", x.hole(5), 0);
        due("9: UNKNOWN", x.hole(12), PigeonMail.UNKNOWN);
        due("9: UNKNOWN", x.hole(-1), PigeonMail.UNKNOWN);
        due("9: UNKNOWN", x.hole(Integer.MIN_VALUE), PigeonMail.UNKNOWN);
    }
}
