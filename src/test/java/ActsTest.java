/** Promises 10 to 14: days, put, fed, sent, undone. */
public final class ActsTest {
    private static final Check CHECK = new Check("ActsTest");

    public static void main(String[] args) {
        waits();
        petitions();
        cuckoos();
        grain();
        answers();
        puts();
        feeds();
        sends();
        undos();
        CHECK.end();
    }

    private static void due(String call, long got, long want) {
        CHECK.due(call, got, want);
    }

    private static void hatchDays(String text, int... due) {
        PigeonMail x = Check.roomOf(text);
        for (int d = 0; d < due.length; d++) {
            due("10: day " + (d + 1) + " of " + text, x.day(), due[d]);
            due("10: THE DAY of " + text, x.about(2), d + 1);
        }
    }

    private static void waits() {
        hatchDays("M9La20", 0, 1, 0);
        hatchDays("M9La90", 0, 0, 0, 0, 0, 0, 0, 0, 1);
        hatchDays("M9La12Lb52Lc92", 1, 1, 0, 1);
        hatchDays("M9La31", 0, 0, 1);
        hatchDays("M9La33", 0, 0, 1);
        hatchDays("M0La10Lb10Lc20", 2, 1, 0);
        hatchDays("M0", 0, 0);
        hatchDays("M0C03", 0, 0);
    }

    private static void petitions() {
        hatchDays("M9La13La53", 0, 1, 0, 0, 1);
        hatchDays("M9Lh23Lh23", 0, 0, 2);
        // Its company hatches behind it, then it has been looked at.
        hatchDays("M9Lb13Lb11", 1, 1);
        // Its company hatches ahead of it, so that it needs less by then.
        hatchDays("M9Lb11Lb13", 2, 0);
        // Company that comes by a cuckoo makes a petition wait, if it has not been looked at.
        hatchDays("M9Li11Li90Le13", 1, 1, 0);
        hatchDays("M9Le13Li11Li90", 2, 0, 0);
        // Birds are no company.
        PigeonMail x = Check.roomOf("M9La10Lb33");
        x.day();
        x.put(1, 0);
        due("10: birds are no company", x.letter(1, 5), 2);
        // Nor are letters that are answered.
        PigeonMail y = Check.roomOf("M9La93La50C01");
        y.day();
        due("10: its company is answered", y.about(5), 2);
        due("10: answered letters are no company", y.letter(0, 5), 8);
    }

    private static void cuckoos() {
        PigeonMail x = Check.roomOf("M9Li11Li90Le90Le90");
        due("10: the cuckoo hatches", x.day(), 1);
        due("10: the other is put out", x.letter(1, 0), 4);
        due("10: it waited as it did", x.letter(1, 4), 1);
        due("10: the cuckoo stays", x.letter(0, 0), 8);
        due("10: room is set aside", x.hole(4), 2 + 4 + 8);
        PigeonMail low = Check.roomOf("M9Ld11Ld90");
        low.day();
        due("10: in the lowest row it stays", low.letter(1, 0), 3);
        PigeonMail plain = Check.roomOf("M9Li10Li90Lj12Lj90Lk13Lk90");
        plain.day();
        due("10: a plain bird puts out none", plain.letter(1, 0), 8);
        due("10: a swift puts out none", plain.letter(3, 0), 9);
        plain.day();
        due("10: a petition's bird puts out none", plain.letter(5, 0), 10);
        PigeonMail birds = Check.roomOf("M9Li10Li11");
        due("10: both hatch", birds.day(), 2);
        due("10: birds are not put out", birds.letter(0, 0), 8);
        PigeonMail late = Check.roomOf("M9Li11Li10");
        due("10: put out, and hatches as it would", late.day(), 2);
        due("10: put out ahead of hatching", late.letter(1, 0), 4);
        PigeonMail twice = Check.roomOf("M9Li11Li90Le21Le90");
        Check.days(twice, 2);
        due("10: put out twice", twice.letter(1, 0), 0);
        due("10: put out once", twice.letter(3, 0), 0);
        PigeonMail chain = Check.roomOf("M9Lk11Lk11Lc40");
        due("10: two cuckoos", chain.day(), 2);
        due("10: the second one is put out, and hatches there", chain.letter(1, 0), 6);
        PigeonMail answered = Check.roomOf("M9Li11Li10C21");
        answered.day();
        due("10: an answered cuckoo puts out none", answered.letter(1, 0), 8);
        PigeonMail gone = Check.roomOf("M9Lj21Lj10C21");
        Check.days(gone, 2);
        due("10: an answered letter is not put out", gone.letter(1, 0), 9);
    }

    private static void grain() {
        PigeonMail x = Check.roomOf("M1La10Lb10Lc10");
        due("10: those that fly at once hatched, too", x.day(), 3);
        due("10: the least eats", x.about(6), 1);
        due("10: others are flown", x.about(7), 6);
        due("10: no grain", x.about(3), 0);
        due("10: none hatch", x.day(), 0);
        due("10: all are flown", x.about(7), 7);
        x.feed(5);
        x.day();
        due("10: the flown do not eat", x.about(3), 5);
        PigeonMail y = Check.roomOf("M9La10Lb20");
        y.day();
        due("10: one ate", y.about(3), 8);
        y.day();
        due("10: two ate", y.about(3), 6);
    }

    private static void answered(String text, int... bits) {
        PigeonMail x = Check.roomOf(text);
        for (int d = 0; d < bits.length; d++) {
            x.day();
            due("10: answered by day " + (d + 1) + " of " + text, x.about(5), bits[d]);
        }
    }

    private static void answers() {
        answered("M9La30Lb20Lc20C01", 2, 6, 7);
        answered("M9La10Lb10Lc10C01C01", 3, 3);
        answered("M9La10Lb10Lc10C02", 3, 3);
        answered("M9La10Lb10Lc10C03", 7);
        answered("M9La10C11", 0);
        answered("M9Ld10Le10Lh10Li10C13", 6);
        answered("M9Ld10Lh10Li10Ll10C23", 12);
        // Once its company is answered, the petition has fewer days to wait.
        answered("M9La10La43Lb40C02", 3, 7);
        // A telegram has half its wait, a petition more than its wait.
        answered("M9La30Lb52C01", 2, 3);
        answered("M9La33La90Lb40C01", 1, 5, 7);
        answered("M9La33La90Lb30C01", 4, 5, 7);
        // Birds are not answered.
        answered("M9La10Lb10C01", 1, 1);
        // What waited longer is more pressing.
        PigeonMail x = Check.roomOf("M9Le50La40C01");
        x.send(0, 2);
        Check.days(x, 2);
        x.put(0, 1);
        x.send(0, 0);
        x.day();
        due("10: fewest days to wait yet", x.about(5), 2);
        // 0 at least: one of the two is overdue by more, yet of like ones the least is answered.
        PigeonMail y = Check.roomOf("M9Lf33Lf90Le23Le90Li11Li90C01");
        Check.days(y, 3);
        due("10: three lie in a hole", y.hole(4), 4 + 8 + 32);
        y.put(0, 0);
        y.put(2, 1);
        due("10: 0 days to wait", y.letter(0, 5), 0);
        due("10: 0 days to wait at least", y.letter(2, 5), 0);
        due("10: the other one hatches", y.day(), 1);
        due("10: of like ones the least", y.about(5), 1);
        // By number: clerk 0 takes the most pressing, clerk 1 the next.
        PigeonMail z = Check.roomOf("M9La30Lb20Lc10C01C01");
        z.day();
        due("10: two clerks", z.about(5), 6);
    }

    private static void puts() {
        PigeonMail x = Check.roomOf("M9La10Lb50Lb50Lc93Ld50C11");
        due("11: where it was", x.put(4, 0), 3);
        due("11: where it is", x.letter(4, 0), 0);
        due("11: an act", x.about(9), 1);
        due("11: UNKNOWN letter", x.put(5, 0), PigeonMail.UNKNOWN);
        due("11: UNKNOWN letter", x.put(-1, 0), PigeonMail.UNKNOWN);
        due("11: UNKNOWN hole", x.put(0, 12), PigeonMail.UNKNOWN);
        due("11: UNKNOWN hole", x.put(0, -1), PigeonMail.UNKNOWN);
        due("11: LATE: it is there", x.put(3, 2), PigeonMail.LATE);
        due("11: LATE: two are", x.put(3, 1), PigeonMail.LATE);
        due("11: LATE: it is there, and two are", x.put(1, 1), PigeonMail.LATE);
        due("11: refusals are no acts", x.about(9), 1);
        x.day();
        due("11: LATE: it is hatched", x.put(0, 5), PigeonMail.LATE);
        due("11: UNKNOWN is told ahead of LATE", x.put(0, 12), PigeonMail.UNKNOWN);
        due("11: LATE: a bird and a letter are two", x.put(3, 0), PigeonMail.LATE);
        due("11: beside one", x.put(4, 2), 0);
        due("11: beside a bird", x.put(1, 0), 1);
        due("11: it waited as it did", x.letter(1, 4), 1);
        due("11: a petition has company", x.letter(3, 5), 9);
        due("11: another row", x.put(4, 6), 2);
        x.day();
        due("11: LATE: it is answered", x.put(4, 0), PigeonMail.LATE);
        due("11: where an answered one was", x.put(3, 6), 2);
        PigeonMail y = Check.roomOf("M0La10La10Lb90");
        y.day();
        due("11: flown birds leave room", y.put(2, 0), 1);
        due("11: LATE: it is flown", y.put(0, 5), PigeonMail.LATE);
        PigeonMail z = Check.roomOf("M9La10La10Lb90");
        z.day();
        due("11: LATE: two birds are", z.put(2, 0), PigeonMail.LATE);
    }

    private static void feeds() {
        PigeonMail x = Check.roomOf("M7");
        due("12: feed(1)", x.feed(1), 8);
        due("12: feed(9)", x.feed(9), 17);
        int[] bad = {0, 10, -1, Integer.MIN_VALUE, Integer.MAX_VALUE};
        for (int b : bad) {
            due("12: feed(" + b + ")", x.feed(b), PigeonMail.BAD);
        }
        due("12: refusals are no acts", x.about(9), 2);
        for (int i = 0; i < 9; i++) {
            x.feed(9);
        }
        due("12: 98", x.about(3), 98);
        due("12: 99 at most", x.feed(9), 99);
        due("12: 99 at most", x.feed(1), 99);
        due("12: an act, too", x.about(9), 13);
        due("12: undone", x.undo(), 12);
        x.undo();
        due("12: undone to 98", x.about(3), 98);
    }

    private static void sends() {
        PigeonMail x = Check.roomOf("M0C01C21");
        due("13: send(0, 2)", x.send(0, 2), 0);
        due("13: send(1, 0)", x.send(1, 0), 2);
        due("13: rows", x.clerk(0, 0) * 10 + x.clerk(1, 0), 20);
        due("13: UNKNOWN clerk", x.send(2, 0), PigeonMail.UNKNOWN);
        due("13: UNKNOWN clerk", x.send(-1, 0), PigeonMail.UNKNOWN);
        due("13: UNKNOWN row", x.send(0, 3), PigeonMail.UNKNOWN);
        due("13: UNKNOWN row", x.send(0, -1), PigeonMail.UNKNOWN);
        due("13: LATE: it is there", x.send(0, 2), PigeonMail.LATE);
        due("13: refusals are no acts", x.about(9), 2);
    }

    private static void undos() {
        PigeonMail x = Check.roomOf("M1Li11Li20La10C11");
        due("14: LATE", x.undo(), PigeonMail.LATE);
        x.send(0, 2);
        x.send(0, 1);
        x.put(2, 1);
        x.feed(3);
        x.day();
        x.day();
        due("14: acts", x.about(9), 6);
        due("14: the other was put out and answered", x.about(5), 2);
        due("14: a day undone", x.undo(), 5);
        due("14: it lies again", x.about(4), 2);
        due("14: the day", x.about(2), 1);
        due("14: waited", x.letter(1, 4), 1);
        due("14: another day undone", x.undo(), 4);
        due("14: all lie", x.about(4), 7);
        due("14: it is where it was", x.letter(1, 0), 8);
        due("14: grain", x.about(3), 4);
        due("14: feed undone", x.undo(), 3);
        due("14: grain", x.about(3), 1);
        due("14: put undone", x.undo(), 2);
        due("14: hole", x.letter(2, 0), 0);
        due("14: send undone", x.undo(), 1);
        due("14: row", x.clerk(0, 0), 2);
        due("14: send undone", x.undo(), 0);
        due("14: row", x.clerk(0, 0), 1);
        due("14: LATE", x.undo(), PigeonMail.LATE);
        fullRow();
    }

    private static void fullRow() {
        PigeonMail x = Check.roomOf("M0La90");
        for (int i = 0; i < 40; i++) {
            x.put(0, i % 2 == 0 ? 5 : 0);
            due("14: 14 at most", x.about(9), Math.min(14, i + 1));
        }
        x.feed(1);
        x.feed(2);
        due("14: grain", x.about(3), 3);
        for (int left = 13; left >= 0; left--) {
            due("14: undone", x.undo(), left);
        }
        due("14: LATE", x.undo(), PigeonMail.LATE);
        due("14: grain", x.about(3), 0);
        due("14: the first ones are forgotten", x.letter(0, 0), 0);
        x.day();
        due("14: acts anew", x.about(9), 1);
        PigeonMail y = Check.roomOf("M0");
        int[] grain = new int[34];
        for (int i = 0; i < 33; i++) {
            grain[i + 1] = grain[i] + i % 3 + 1;
            due("14: fed", y.feed(i % 3 + 1), grain[i + 1]);
        }
        for (int left = 13; left >= 0; left--) {
            y.undo();
            due("14: undone one by one", y.about(3), grain[33 - 14 + left]);
        }
        due("14: no more", y.undo(), PigeonMail.LATE);
    }
}
