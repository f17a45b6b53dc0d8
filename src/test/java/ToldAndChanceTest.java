import java.util.Arrays;

/** Promises 22 to 30: told, rests, hawks, years, slots. */
public final class ToldAndChanceTest {
    private static final Check CHECK = new Check("ToldAndChanceTest");
    private static final int DAY = Seeds.DAY;

    public static void main(String[] args) {
        tells();
        mays();
        rests();
        hawks();
        seeds();
        years();
        slots();
        CHECK.end();
    }

    private static void due(String call, long got, long want) {
        CHECK.due(call, got, want);
    }

    private static void tells() {
        PigeonMail x = new PigeonMail();
        int bad = PigeonMail.BAD;
        due("22: BAD n", x.tell(-1, 0), bad);
        due("22: BAD n", x.tell(10, 0), bad);
        due("22: BAD hatched", x.tell(0, -1), bad);
        due("22: BAD hatched", x.tell(0, 2), bad);
        due("22: nothing is told", x.about(10), 0);
        due("23: nothing was told", x.untell(), 0);
        for (int i = 1; i <= 6; i++) {
            due("22: told", x.tell(9, 1), i);
        }
        due("22: FULL", x.tell(9, 1), PigeonMail.FULL);
        due("22: BAD is told ahead of FULL", x.tell(10, 1), bad);
        due("22: six are told", x.about(10), 6);
        due("23: so much was told", x.untell(), 6);
        due("23: nothing is told", x.about(10), 0);
        due("24: all may be", x.may(0), 36);
        due("22: told anew", x.tell(0, 0), 1);
    }

    private static void may(int[][] told, int howMany, int first) {
        PigeonMail x = new PigeonMail();
        for (int[] t : told) {
            x.tell(t[0], t[1]);
        }
        String what = Arrays.deepToString(told);
        due("24: may(0) of " + what, x.may(0), howMany);
        due("24: may(1) of " + what, x.may(1), first);
    }

    private static void mays() {
        may(new int[][] {}, 36, 1);
        may(new int[][] {{0, 0}}, 36, 1);
        may(new int[][] {{0, 1}}, 0, PigeonMail.NONE);
        may(new int[][] {{1, 1}}, 6, 1);
        may(new int[][] {{1, 0}}, 30, 2);
        may(new int[][] {{9, 1}}, 36, 1);
        may(new int[][] {{9, 0}}, 0, PigeonMail.NONE);
        may(new int[][] {{8, 0}}, 3, 9);
        may(new int[][] {{4, 0}}, 15, 5);
        may(new int[][] {{3, 0}, {4, 1}}, 5, 4);
        may(new int[][] {{2, 0}, {4, 1}}, 10, 3);
        may(new int[][] {{4, 1}, {2, 0}, {2, 0}}, 10, 3);
        may(new int[][] {{4, 0}, {4, 1}}, 0, PigeonMail.NONE);
        may(new int[][] {{1, 0}, {2, 0}, {3, 0}, {9, 1}, {8, 1}, {5, 1}}, 8, 4);
        PigeonMail x = new PigeonMail();
        due("24: BAD", x.may(2), PigeonMail.BAD);
        due("24: BAD", x.may(-1), PigeonMail.BAD);
    }

    private static void rests(String text, int one, int other, int howMany, int first) {
        PigeonMail x = Check.roomOf(text);
        String call = one + ", " + other + " of " + text;
        due("25: how many: " + call, x.rests(one, other, 0), howMany);
        due("25: the first one: " + call, x.rests(one, other, 1), first);
        due("25: nothing changed", x.about(9) + x.about(2), 0);
    }

    private static void rests() {
        rests("M9La10C01C01", 0, 1, 1, 0);
        rests("M9C21C11", 0, 1, 1, 21);
        rests("M9C21C11", 1, 0, 1, 12);
        // To move for 1 letter is worth nothing; for 2 it is.
        rests("M9Li90C01C11", 0, 1, 3, 1);
        rests("M9Li90Lj90C01C11", 0, 1, 3, 2);
        rests("M9Le90Lf90Lg90Lh90Li90Lj90C01C01", 0, 1, 3, 11);
        // Three days, no fewer: in two the clerk would answer but two of three letters below.
        rests("M9La90La90Lb90Lf90Li90C21C11", 0, 1, 2, 1);
        // Three days, no more: what the cuckoo puts out would be answered on the fourth.
        rests("M9La21Li50Li31C12C01", 0, 1, 1, 20);
        // No rest at all: found by search, agreed on by the model.
        rests("M9Li30Lb10Le21Li11Le33C03C13", 0, 1, 0, PigeonMail.NONE);
        // The third clerk is at work, too.
        rests("M9La10C01C21C21", 1, 2, 1, 22);
        PigeonMail x = Check.roomOf("M9La10C01C01");
        due("25: UNKNOWN one", x.rests(2, 0, 0), PigeonMail.UNKNOWN);
        due("25: UNKNOWN other", x.rests(0, 2, 0), PigeonMail.UNKNOWN);
        due("25: UNKNOWN", x.rests(-1, 0, 0), PigeonMail.UNKNOWN);
        due("25: UNKNOWN is told ahead of BAD", x.rests(2, 2, 5), PigeonMail.UNKNOWN);
        due("25: BAD: both are one", x.rests(1, 1, 0), PigeonMail.BAD);
        due("25: BAD what", x.rests(0, 1, 2), PigeonMail.BAD);
        due("25: BAD what", x.rests(0, 1, -1), PigeonMail.BAD);
    }

    private static void hawks(PigeonMail x, int m, int tenths, int upper, int lower) {
        due("26: hawks(" + m + ", " + tenths + ", true)", x.hawks(m, tenths, true), upper);
        due("26: hawks(" + m + ", " + tenths + ", false)", x.hawks(m, tenths, false), lower);
    }

    private static void hawks() {
        PigeonMail none = Check.roomOf("M9La90");
        hawks(none, 0, 5, 1, 1);
        hawks(none, 1, 5, 0, 1);
        PigeonMail two = Check.roomOf("M9La10Lb10Lc90");
        two.day();
        hawks(two, 0, 5, 1, 1);
        hawks(two, 1, 5, 3, 4);
        hawks(two, 2, 5, 1, 4);
        hawks(two, 3, 5, 0, 1);
        hawks(two, 2, 0, 1, 1);
        hawks(two, 1, 10, 0, 1);
        hawks(two, 0, 10, 1, 1);
        hawks(two, 1, 2, 24, 25);
        hawks(two, 2, 3, 49, 100);
        PigeonMail six = Check.roomOf("M9La10Lb10Lc10Ld10Le10Lf10");
        six.day();
        hawks(six, 1, 3, 999271, 1000000);
        hawks(six, 6, 3, 117649, 1000000);
        hawks(six, 6, 9, 1, 1000000);
        hawks(six, 6, 0, 1, 1);
        hawks(six, 3, 5, 21, 32);
        six.day();
        hawks(six, 3, 5, 1, 8);
        due("26: three are flown", six.about(7), 56);
        due("26: BAD m", six.hawks(-1, 0, true), PigeonMail.BAD);
        due("26: BAD m", six.hawks(7, 0, true), PigeonMail.BAD);
        due("26: BAD x", six.hawks(0, -1, true), PigeonMail.BAD);
        due("26: BAD x", six.hawks(0, 11, false), PigeonMail.BAD);
    }

    private static void seeds() {
        PigeonMail x = new PigeonMail();
        due("27: at first", x.seed(Long.MIN_VALUE), 0);
        due("27: what it was", x.seed(Long.MAX_VALUE), Long.MIN_VALUE);
        due("27: what it was", x.seed(-1), Long.MAX_VALUE);
        due("27: what it was", x.seed(5), -1);
        due("28: BAD", x.years(0), PigeonMail.BAD);
        due("28: BAD", x.years(31), PigeonMail.BAD);
        due("28: BAD", x.years(-1), PigeonMail.BAD);
        due("28: refusals do not change the seed", x.seed(0), 5);
        due("28: one time", x.years(1), 0);
        due("28: the seed behind it", x.seed(9), 1442695040888963407L);
        x.years(30);
        x.years(1);
        due("28: the seed behind 31", x.seed(0), 3965132133515300738L);
    }

    private static void years(String text, int want, int... fates) {
        PigeonMail x = Check.roomOf(text);
        x.seed(Seeds.forComing(fates));
        String call = "years(" + fates.length + ") of " + text + " by " + Arrays.toString(fates);
        due("28: " + call, x.years(fates.length), want);
        due("28: nothing changed: letters", x.about(5) + x.about(6) + x.about(7), 0);
        due("28: nothing changed: grain", x.about(3), text.charAt(1) - '0');
        due("28: nothing changed: the day", x.about(2), 0);
        due("28: no acts", x.about(9), 0);
    }

    private static void years() {
        for (int fate = 16; fate <= 23; fate++) {
            years("M9La10", 1, fate);
        }
        for (int fate = 0; fate <= 15; fate++) {
            years("M9La10", 0, fate);
            years("M9La10C01", 0, fate);
        }
        years("M9La10", 2, DAY, DAY);
        years("M9La10", 3, DAY, 3, 15);
        years("M1La10", 1, DAY, DAY);
        years("M1La10", 4, DAY, 15, DAY, 15);
        years("M0La10", 0, DAY, DAY);
        years("M0La10", 1, 15, DAY);
        years("M0La10", 1, 15, DAY, DAY);
        years("M9La20Lb10", 3, DAY, DAY);
        // Letter 0 is put to the clerk, or the clerk comes to it.
        for (int hole = 0; hole < 12; hole++) {
            years("M9La10C11", hole / 4 == 1 ? 0 : 1, hole, DAY);
            years("M9Ll10C01", hole / 4 == 0 ? 0 : 1, hole, DAY);
        }
        for (int row = 0; row < 3; row++) {
            years("M9Le10C01", row == 1 ? 0 : 1, 12 + row, DAY);
            years("M9Le10C11", row == 1 ? 0 : 1, 12 + row, DAY);
            years("M9Le10", 1, 12 + row, DAY);
        }
        // There is no room for it.
        years("M9La10Lf90Lf90C11", 1, 5, DAY);
    }

    private static void slots() {
        PigeonMail x = Check.roomOf("M5Li11Li90La10C11");
        due("30: LATE", x.again(0), PigeonMail.LATE);
        due("29: the day", x.keep(0), 0);
        due("29: keeping is no act", x.about(9), 0);
        due("30: LATE: the other slot", x.again(1), PigeonMail.LATE);
        x.send(0, 2);
        x.put(2, 7);
        x.feed(4);
        x.day();
        x.day();
        due("29: the day", x.keep(1), 2);
        due("29: acts stay", x.about(9), 5);
        int grain = x.about(3);
        int answered = x.about(5);
        int hatched = x.about(6);
        due("30: the day", x.again(0), 0);
        due("30: no acts", x.about(9), 0);
        due("30: no acts", x.undo(), PigeonMail.LATE);
        due("30: THE DAY", x.about(2), 0);
        due("30: grain", x.about(3), 5);
        due("30: what they are", x.about(4), 7);
        due("30: where they are", x.letter(1, 0), 8);
        due("30: where they are", x.letter(2, 0), 0);
        due("30: how long they waited", x.letter(1, 4), 0);
        due("30: where clerks are", x.clerk(0, 0), 1);
        x.day();
        due("30: the other slot", x.again(1), 2);
        due("30: grain", x.about(3), grain);
        due("30: answered", x.about(5), answered);
        due("30: hatched", x.about(6), hatched);
        due("30: where clerks are", x.clerk(0, 0), 2);
        due("30: where they are", x.letter(2, 0), 7);
        due("30: once more", x.again(0), 0);
        x.day();
        due("29: kept over", x.keep(0), 1);
        due("30: as kept last", x.again(0), 1);
        int unknown = PigeonMail.UNKNOWN;
        due("29: UNKNOWN", x.keep(2), unknown);
        due("29: UNKNOWN", x.keep(-1), unknown);
        due("30: UNKNOWN", x.again(2), unknown);
        due("30: UNKNOWN", x.again(-1), unknown);
        x.tell(3, 1);
        x.seed(8);
        x.again(0);
        due("30: told stays", x.about(10), 1);
        due("30: the seed stays", x.seed(0), 8);
        due("30: the room stays", x.about(0), 3);
    }
}
