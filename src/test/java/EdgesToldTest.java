import java.math.BigInteger;
import java.util.Arrays;

/** Promises 22 to 30 at their edges: one method a sentence of the document. */
public final class EdgesToldTest {
    private static final Check CHECK = new Check("EdgesToldTest");
    private static final int UNKNOWN = PigeonMail.UNKNOWN, BAD = PigeonMail.BAD, LATE = PigeonMail.LATE,
            FULL = PigeonMail.FULL, NONE = PigeonMail.NONE;
    private static final int DAY = Seeds.DAY;

    public static void main(String[] args) {
        told0To9Days();
        sixToldAtMost();
        nothingIsTold();
        mayOfOneTold();
        mayOfTwoTold();
        mayOfSixTold();
        may0To1();
        restsOfEachTwo();
        restsBothAreOne();
        restsWhat();
        restsIn3Days();
        restsLess1();
        restsHowManyAndTheFirst();
        restsNone();
        hawksOfAll();
        hawksMAndX();
        hawksOfBirdsOnly();
        anySeed();
        years1To30();
        years64BitsWrapping();
        yearsUpper31Bits();
        yearsPutInEachHole();
        yearsPutIfItCanBe();
        yearsSentToEachRow();
        yearsSentIfItCanBe();
        yearsOneMoreGrain();
        years99GrainAtMost();
        yearsADay();
        yearsBehindEachTime();
        slots0To1();
        slotsOneInWhichNothingWasKept();
        slotsKeepAll();
        slotsKeptOverAndGoneOnFromTwice();
        slotsNoActsWhenOneGoesOn();
        CHECK.end();
    }

    private static void due(String call, long got, long want) {
        CHECK.due(call, got, want);
    }

    // ---- promises 22, 23

    private static void told0To9Days() {
        CHECK.sentence("22: behind n DAYS (0 .. 9), HATCHED (1) or not yet (0); BAD: n, hatched");
        for (int n = 0; n <= 9; n++) {
            for (int hatched = 0; hatched <= 1; hatched++) {
                PigeonMail x = new PigeonMail();
                due("tell(" + n + ", " + hatched + ")", x.tell(n, hatched), 1);
                due("about(10)", x.about(10), 1);
            }
        }
        PigeonMail x = new PigeonMail();
        for (int n : Check.outside(0, 9)) {
            due("tell(" + n + ", 0)", x.tell(n, 0), BAD);
            due("tell(" + n + ", 1)", x.tell(n, 1), BAD);
        }
        for (int hatched : Check.outside(0, 1)) {
            due("tell(0, " + hatched + ")", x.tell(0, hatched), BAD);
            due("tell(9, " + hatched + ")", x.tell(9, hatched), BAD);
        }
        due("about(10)", x.about(10), 0);
        due("may(0)", x.may(0), 36);
    }

    private static void sixToldAtMost() {
        CHECK.sentence("22: 6 such at most: how many there are; FULL: 6");
        PigeonMail x = new PigeonMail();
        for (int i = 1; i <= 6; i++) {
            due("tell " + i, x.tell(9, 1), i);
        }
        due("tell 7", x.tell(9, 1), FULL);
        due("tell 8, by which nothing may be", x.tell(0, 1), FULL);
        due("may(0): it was not told", x.may(0), 36);
        due("BAD n is told first", x.tell(10, 1), BAD);
        due("BAD hatched is told first", x.tell(9, 2), BAD);
        due("about(10)", x.about(10), 6);
    }

    private static void nothingIsTold() {
        CHECK.sentence("23: nothing is TOLD: how much there was");
        PigeonMail x = new PigeonMail();
        for (int told = 0; told <= 8; told++) {
            for (int i = 0; i < told; i++) {
                x.tell(0, 1);
            }
            due("may(0) of " + told, x.may(0), told == 0 ? 36 : 0);
            due("untell() of " + told, x.untell(), Math.min(6, told));
            due("about(10)", x.about(10), 0);
            due("untell() again", x.untell(), 0);
            due("may(0)", x.may(0), 36);
            due("may(1)", x.may(1), 1);
        }
    }

    // ---- promise 24

    private static void may(int... told) {
        PigeonMail x = new PigeonMail();
        for (int i = 0; i < told.length; i += 2) {
            x.tell(told[i], told[i + 1]);
        }
        int count = 0;
        int first = NONE;
        for (int k = 0; k <= 3; k++) {
            for (int w = 1; w <= 9; w++) {
                int needs = k != 2 ? w : w < 2 ? 1 : w / 2;
                boolean fits = true;
                for (int i = 0; i < told.length; i += 2) {
                    fits &= told[i + 1] == (told[i] >= needs ? 1 : 0);
                }
                first = fits && count == 0 ? 10 * k + w : first;
                count += fits ? 1 : 0;
            }
        }
        due("may(0) of " + Arrays.toString(told), x.may(0), count);
        due("may(1) of " + Arrays.toString(told), x.may(1), first);
    }

    private static void mayOfOneTold() {
        CHECK.sentence("24: WAITS and KINDS by which all that is TOLD is so: how many (36 there are); the first; NONE");
        may();
        for (int n = 0; n <= 9; n++) {
            may(n, 0);
            may(n, 1);
        }
        PigeonMail x = new PigeonMail();
        due("may(0) of nothing told", x.may(0), 36);
        x.tell(0, 1);
        due("may(0) of hatched behind 0 days", x.may(0), 0);
        due("may(1) of hatched behind 0 days", x.may(1), NONE);
        x.untell();
        x.tell(9, 0);
        due("may(0) of not yet behind 9 days", x.may(0), 0);
        due("may(1) of not yet behind 9 days", x.may(1), NONE);
        x.untell();
        x.tell(8, 0);
        due("may(0) of not yet behind 8 days", x.may(0), 3);
        due("may(1) of not yet behind 8 days", x.may(1), 9);
        x.untell();
        x.tell(1, 1);
        due("may(0) of hatched behind 1 day: 1 of each, telegrams of 1, 2, 3", x.may(0), 6);
        due("may(1) of hatched behind 1 day", x.may(1), 1);
    }

    private static void mayOfTwoTold() {
        CHECK.sentence("24: all that is TOLD");
        for (int one = 0; one < 20; one++) {
            for (int other = 0; other < 20; other++) {
                may(one / 2, one % 2, other / 2, other % 2);
            }
        }
    }

    private static void mayOfSixTold() {
        CHECK.sentence("24: all that is TOLD, the sixth, too");
        for (int last = 0; last < 20; last++) {
            may(1, 0, 1, 0, 2, 0, 9, 1, 8, 1, last / 2, last % 2);
            may(last / 2, last % 2, 1, 0, 1, 0, 2, 0, 9, 1, 8, 1);
        }
    }

    private static void may0To1() {
        CHECK.sentence("24: what = 0, 1; BAD");
        PigeonMail x = new PigeonMail();
        for (int what : Check.outside(0, 1)) {
            due("may(" + what + ")", x.may(what), BAD);
        }
        x.tell(0, 1);
        for (int what : Check.outside(0, 1)) {
            due("may(" + what + ") where there is none", x.may(what), BAD);
        }
    }

    // ---- promise 25

    private static void restsOfEachTwo() {
        CHECK.sentence("25: RESTS of two CLERKS; UNKNOWN: both");
        for (int clerks = 0; clerks <= 3; clerks++) {
            PigeonMail x = Check.roomOf("M9" + "C01C11C21".substring(0, 3 * clerks));
            for (int one = 0; one < clerks; one++) {
                for (int other = 0; other < clerks; other++) {
                    int want = one == other ? BAD : 10 * one + other;
                    due("rests(" + one + ", " + other + ", 1)", x.rests(one, other, 1), want);
                }
            }
            for (int c : Check.outside(0, clerks - 1)) {
                due("rests(" + c + ", 0, 0)", x.rests(c, 0, 0), UNKNOWN);
                due("rests(0, " + c + ", 0)", x.rests(0, c, 0), UNKNOWN);
                due("rests(" + c + ", " + c + ", 0)", x.rests(c, c, 0), UNKNOWN);
                due("rests(" + c + ", " + c + ", 2)", x.rests(c, c, 2), UNKNOWN);
            }
        }
    }

    private static void restsBothAreOne() {
        CHECK.sentence("25: BAD: both are one");
        PigeonMail x = Check.roomOf("M9La10C01C11C21");
        for (int c = 0; c < 3; c++) {
            due("rests(" + c + ", " + c + ", 0)", x.rests(c, c, 0), BAD);
            due("rests(" + c + ", " + c + ", 1)", x.rests(c, c, 1), BAD);
            due("rests(" + c + ", " + c + ", 2)", x.rests(c, c, 2), BAD);
        }
        due("rests(0, 0, 0) of one clerk", Check.roomOf("M9C01").rests(0, 0, 0), BAD);
    }

    private static void restsWhat() {
        CHECK.sentence("25: BAD: what");
        PigeonMail x = Check.roomOf("M9C01C11");
        due("rests(0, 1, 0)", x.rests(0, 1, 0), 1);
        due("rests(0, 1, 1)", x.rests(0, 1, 1), 1);
        for (int what : Check.outside(0, 1)) {
            due("rests(0, 1, " + what + ")", x.rests(0, 1, what), BAD);
        }
    }

    private static void rests(String text, int howMany, int first) {
        PigeonMail x = Check.roomOf(text);
        due("rests(0, 1, 0) of " + text, x.rests(0, 1, 0), howMany);
        due("rests(0, 1, 1) of " + text, x.rests(0, 1, 1), first);
    }

    private static void restsIn3Days() {
        CHECK.sentence("25: as many LETTERS as it answers in 3 DAYS");
        // In row 0 clerk 0 answers three, less 1 for going there; in two days it would be as good to stay for one.
        rests("M9La90La90Lb90Lf90Li90C21C11", 2, 1);
        // What the cuckoo puts out on day 3 would be answered on day 4.
        rests("M9La21Li50Li31C12C01", 1, 20);
    }

    private static void restsLess1() {
        CHECK.sentence("25: less 1, if it is in another ROW than now");
        // To go for 1 letter is as good as to stay, for none it is worse, for 2 better.
        rests("M9C21C11", 1, 21);
        rests("M9Li90C01C11", 3, 1);
        rests("M9Li90Lj90C01C11", 3, 2);
        rests("M9Li21Li31C02C22", 1, 22);
        due("the clerk stays where it is", Check.roomOf("M9C21C11").clerk(0, 0), 2);
    }

    private static void restsHowManyAndTheFirst() {
        CHECK.sentence("25: how many; the first one (10 times the one and the other)");
        // All letters are for the first day, one for each clerk in rows 0 and 1: going and staying are worth 0.
        rests("M9Lf12Lb32La12Le12C21C21", 9, 0);
        rests("M9La10C01C01", 1, 0);
        PigeonMail x = Check.roomOf("M9C01C11C21");
        due("rests(1, 2, 1)", x.rests(1, 2, 1), 12);
        due("rests(2, 1, 1)", x.rests(2, 1, 1), 21);
        due("rests(2, 0, 1)", x.rests(2, 0, 1), 20);
    }

    private static void restsNone() {
        CHECK.sentence("25: NONE");
        // Found by search, agreed on by the model.
        rests("M9Li30Lb10Le21Li11Le33C03C13", 0, NONE);
        rests("M9Lf11Lf93Lj21Lj91Lb53C02C11C02", 0, NONE);
    }

    // ---- promise 26

    private static long power(int of, int times) {
        long p = 1;
        for (int i = 0; i < times; i++) {
            p *= of;
        }
        return p;
    }

    /** In how many of 10 to birds cases m or more are left: each set of those left by itself. */
    private static long left(int birds, int m, int tenths) {
        long cases = 0;
        for (int set = 0; set < 1 << birds; set++) {
            int n = Integer.bitCount(set);
            cases += n >= m ? power(10 - tenths, n) * power(tenths, birds - n) : 0;
        }
        return cases;
    }

    private static void hawksOfAll() {
        CHECK.sentence("26: each bird is taken by x tenths (0 .. 10), by itself: that m (0 .. 6) or more are left");
        String six = "La10Lb10Lc10Ld10Le10Lf10";
        for (int birds = 0; birds <= 6; birds++) {
            PigeonMail x = Check.behind("M9" + six.substring(0, 4 * birds), 1);
            for (int m = 0; m <= 6; m++) {
                for (int tenths = 0; tenths <= 10; tenths++) {
                    long above = left(birds, m, tenths);
                    long below = power(10, birds);
                    long by = BigInteger.valueOf(above).gcd(BigInteger.valueOf(below)).longValue();
                    String call = "hawks(" + m + ", " + tenths + ", ";
                    due(call + "true) of " + birds, x.hawks(m, tenths, true), above / by);
                    due(call + "false) of " + birds, x.hawks(m, tenths, false), below / by);
                }
            }
        }
    }

    private static void hawksMAndX() {
        CHECK.sentence("26: BAD: m, x");
        PigeonMail x = Check.behind("M9La10Lb10Lc10Ld10Le10Lf10", 1);
        due("hawks(0, 0, true)", x.hawks(0, 0, true), 1);
        due("hawks(6, 0, true)", x.hawks(6, 0, true), 1);
        due("hawks(6, 9, false)", x.hawks(6, 9, false), 1000000);
        due("hawks(6, 10, true)", x.hawks(6, 10, true), 0);
        due("hawks(6, 10, false)", x.hawks(6, 10, false), 1);
        due("hawks(0, 10, true)", x.hawks(0, 10, true), 1);
        for (int m : Check.outside(0, 6)) {
            due("hawks(" + m + ", 5, true)", x.hawks(m, 5, true), BAD);
        }
        for (int tenths : Check.outside(0, 10)) {
            due("hawks(1, " + tenths + ", true)", x.hawks(1, tenths, true), BAD);
        }
        due("hawks(7, 11, false)", x.hawks(7, 11, false), BAD);
    }

    private static void hawksOfBirdsOnly() {
        CHECK.sentence("26: each bird that is HATCHED");
        PigeonMail x = Check.behind("M1La10Lb10Le10Li90C11", 1);
        due("one of four is hatched: 1 left", x.hawks(1, 5, true) * 10 + x.hawks(1, 5, false), 12);
        due("one of four is hatched: 2 left", x.hawks(2, 5, true) * 10 + x.hawks(2, 5, false), 1);
        due("no room: 0 left", new PigeonMail().hawks(0, 10, true), 1);
        due("no room: 1 left", new PigeonMail().hawks(1, 0, true), 0);
    }

    // ---- promises 27, 28

    private static void anySeed() {
        CHECK.sentence("27: THE SEED is v: what it was (a long; 0 at first)");
        PigeonMail x = new PigeonMail();
        long[] seeds = {Long.MIN_VALUE, Long.MAX_VALUE, -1, 1, 0, Integer.MIN_VALUE, Integer.MAX_VALUE, 1L << 32,
            -(1L << 32), Long.MIN_VALUE + 1, Long.MAX_VALUE - 1};
        long was = 0;
        for (long v : seeds) {
            due("seed(" + v + ")", x.seed(v), was);
            was = v;
        }
        due("seed(0)", x.seed(0), was);
    }

    private static void years1To30() {
        CHECK.sentence("28: m times (1 .. 30); BAD: m");
        for (int m = 1; m <= 30; m++) {
            PigeonMail x = new PigeonMail();
            x.seed(7);
            due("years(" + m + ") of nothing", x.years(m), 0);
            long v = 7;
            for (int i = 0; i < m; i++) {
                v = Seeds.next(v);
            }
            due("the seed behind years(" + m + ")", x.seed(0), v);
        }
        PigeonMail x = Check.roomOf("M9La10");
        x.seed(7);
        for (int m : Check.outside(1, 30)) {
            due("years(" + m + ")", x.years(m), BAD);
        }
        due("the seed behind refusals", x.seed(0), 7);
    }

    private static void years64BitsWrapping() {
        CHECK.sentence("28: x times 6364136223846793005 and 1442695040888963407 (64 bits, wrapping)");
        long[] seeds = {0, 1, -1, Long.MAX_VALUE, Long.MIN_VALUE, Long.MAX_VALUE - 1, Long.MIN_VALUE + 1, 1L << 32,
            1L << 62, -(1L << 33), 0xFFFFFFFFL};
        BigInteger word = BigInteger.ONE.shiftLeft(64);
        for (long v : seeds) {
            PigeonMail x = new PigeonMail();
            x.seed(v);
            BigInteger want = BigInteger.valueOf(v).mod(word);
            for (int i = 0; i < 5; i++) {
                x.years(1);
                want = want.multiply(new BigInteger("6364136223846793005")).add(new BigInteger("1442695040888963407"));
                want = want.mod(word);
                long seed = x.seed(0);
                due("the seed behind " + v, seed, want.longValue());
                x.seed(seed);
            }
        }
    }

    /** Whether a seed's next time is a day: what is left of the upper 31 of 64 bits by 24 is 16 or more. */
    private static boolean isDay(long seed) {
        BigInteger bits = new BigInteger(Long.toUnsignedString(Seeds.next(seed)));
        return bits.shiftRight(33).mod(BigInteger.valueOf(24)).intValue() >= 16;
    }

    private static void yearsUpper31Bits() {
        CHECK.sentence("28: what is left of its upper 31 bits by 24");
        int days = 0;
        int below0 = 0;
        for (long v = -200; v < 200; v++) {
            PigeonMail x = Check.roomOf("M9La10");
            long seed = v * 0x123456789ABCDEFL;
            x.seed(seed);
            due("years(1) by " + seed, x.years(1), isDay(seed) ? 1 : 0);
            days += isDay(seed) ? 1 : 0;
            below0 += x.seed(0) < 0 ? 1 : 0;
        }
        due("some are days, some are not", days > 50 && days < 350 ? 1 : 0, 1);
        due("of some the highest bit is 1, of some not", below0 > 50 && below0 < 350 ? 1 : 0, 1);
    }

    private static void years(String text, int want, int... comes) {
        years(text, Check.roomOf(text), want, comes);
    }

    private static void years(String what, PigeonMail x, int want, int... comes) {
        x.seed(Seeds.forComing(comes));
        due("years of " + what + " by " + Arrays.toString(comes), x.years(comes.length), want);
    }

    private static void yearsPutInEachHole() {
        CHECK.sentence("28: 0 .. 11 LETTER 0 is PUT in that HOLE");
        String holes = "abcdefghijkl";
        for (int h = 0; h < 12; h++) {
            // In company, and there alone, the petition does not hatch on the first day.
            String text = "M9L" + holes.charAt((h + 5) % 12) + "13L" + holes.charAt(h) + "90";
            for (int come = 0; come <= 15; come++) {
                years(text, come == h ? 0 : 1, come, DAY);
            }
            // Letter 1 is not put.
            String other = "M9L" + holes.charAt(h) + "90L" + holes.charAt((h + 5) % 12) + "13";
            for (int come = 0; come <= 15; come++) {
                years(other, come == (h + 5) % 12 ? 0 : 1, come, DAY);
            }
        }
    }

    private static void yearsPutIfItCanBe() {
        CHECK.sentence("28: PUT, if it can be");
        years("M9La10Lf90Lf90C11", 1, 5, DAY);
        years("M9La10Lf90C11", 0, 5, DAY);
        years("M9Lf10C01", 1, 5, DAY);
        PigeonMail birds = Check.behind("M9La20Lf10Lf10C21", 1);
        birds.send(0, 1);
        years("two birds there", birds, 2 + 3, 5, DAY);
        PigeonMail flown = Check.behind("M0La20Lf10Lf10C21", 1);
        flown.send(0, 1);
        flown.feed(9);
        years("two flown were there", flown, 0, 5, DAY);
        years("there is no letter", Check.roomOf("M9C01"), 0, 5, DAY);
    }

    private static void yearsSentToEachRow() {
        CHECK.sentence("28: 12 .. 14 CLERK 0 is SENT to that less 12 ROW");
        String[] letter = {"La10", "Lf10", "Lk10"};
        for (int from = 0; from < 3; from++) {
            for (int row = 0; row < 3; row++) {
                for (int come = 12; come <= 15; come++) {
                    int at = come == 15 ? from : come - 12;
                    years("M9" + letter[row] + "C" + from + "1", at == row ? 0 : 1, come, DAY);
                }
            }
        }
    }

    private static void yearsSentIfItCanBe() {
        CHECK.sentence("28: SENT, if it can be");
        for (int row = 0; row < 3; row++) {
            years("M9La10", 1, 12 + row, DAY);
            years("M9La10C01", row == 0 ? 0 : 1, 12 + row, DAY);
            // Clerk 1 is not sent.
            years("M9La10C21C11", row == 0 ? 0 : 1, 12 + row, DAY);
            years("M9La10C21C01", 0, 12 + row, DAY);
        }
    }

    private static void yearsOneMoreGrain() {
        CHECK.sentence("28: 15 there is 1 more GRAIN");
        for (int come = 0; come <= 15; come++) {
            years("M0La10", come == 15 ? 1 : 0, come, DAY);
        }
        years("M0La10", 1, 15, DAY, DAY);
        years("M0La10Lb10", 1, 15, DAY);
        years("M0La10Lb10", 2, 15, 15, DAY);
    }

    private static void years99GrainAtMost() {
        CHECK.sentence("28: 1 more GRAIN (99 at most)");
        long seed = 0;
        while (birdsBy(seed, 99) == birdsBy(seed, 1000)) {
            seed++;
        }
        PigeonMail x = Check.behind("M9La10Lb10Lc10Ld10Le10Lf10", 1);
        for (int i = 0; i < 11; i++) {
            x.feed(9);
        }
        due("99", x.about(3), 99);
        x.seed(seed);
        due("years(30) by " + seed, x.years(30), birdsBy(seed, 99));
    }

    /** The birds of 30 times, added, where six are hatched, nothing else is there, and grain is 99. */
    private static int birdsBy(long seed, int most) {
        long x = seed;
        int grain = 99;
        int birds = 6;
        int sum = 0;
        for (int i = 0; i < 30; i++) {
            x = Seeds.next(x);
            int what = Seeds.comesOf(x);
            if (what == 15) {
                grain = Math.min(most, grain + 1);
            } else if (what > 15) {
                birds = Math.min(birds, grain);
                grain -= birds;
            }
            sum += birds;
        }
        return sum;
    }

    private static void yearsADay() {
        CHECK.sentence("28: 16 .. 23 A DAY");
        for (int come = 0; come <= 23; come++) {
            years("M9La10", come >= 16 ? 1 : 0, come);
            years("M9La10C01", 0, come);
            years("M0La10", 0, come);
        }
    }

    private static void yearsBehindEachTime() {
        CHECK.sentence("28: how many are HATCHED behind each time (those of times ahead, too), all added");
        years("M9La10", 2, DAY, DAY);
        years("M9La10", 3, DAY, DAY, 3);
        years("M9La10Lb20", 1 + 2, DAY, DAY);
        years("M9La10Lb20", 1 + 2 + 2, DAY, DAY, 15);
        years("M1La10", 1, DAY, DAY);
        years("M1La10Lb10", 1 + 1, DAY, 7);
        years("hatched at first", Check.behind("M9La10Lb10Lc90", 1), 2 + 2 + 2, 3, 4, DAY);
        years("flown at first", Check.behind("M0La10Lb10Lc90", 1), 0, 3, 4, DAY);
    }

    // ---- promises 29, 30

    private static void slots0To1() {
        CHECK.sentence("29, 30: SLOTS 0 .. 1; UNKNOWN");
        PigeonMail x = Check.behind("M9La90", 3);
        for (int slot = 0; slot <= 1; slot++) {
            due("keep(" + slot + ")", x.keep(slot), 3 + slot);
            x.day();
        }
        for (int slot = 0; slot <= 1; slot++) {
            due("again(" + slot + ")", x.again(slot), 3 + slot);
            due("about(2)", x.about(2), 3 + slot);
        }
        for (int slot : Check.outside(0, 1)) {
            due("keep(" + slot + ")", x.keep(slot), UNKNOWN);
            due("again(" + slot + ")", x.again(slot), UNKNOWN);
        }
        due("again(0), as it was", x.again(0), 3);
        due("again(1), as it was", x.again(1), 4);
    }

    private static void slotsOneInWhichNothingWasKept() {
        CHECK.sentence("30: LATE: none were kept");
        for (int kept = 0; kept < 2; kept++) {
            PigeonMail x = Check.roomOf("M9La90");
            due("again(0)", x.again(0), LATE);
            due("again(1)", x.again(1), LATE);
            x.day();
            x.keep(kept);
            x.day();
            due("again(" + (1 - kept) + "), the other being kept", x.again(1 - kept), LATE);
            due("about(2)", x.about(2), 2);
            due("again(" + kept + ")", x.again(kept), 1);
            x.room();
            due("again(" + kept + ") in a room made anew", x.again(kept), LATE);
        }
        PigeonMail none = new PigeonMail();
        due("keep(0) with no room", none.keep(0), 0);
        none.feed(7);
        due("again(0) with no room", none.again(0), 0);
        due("about(3) with no room", none.about(3), 0);
    }

    private static void slotsKeepAll() {
        CHECK.sentence("29, 30: where all are, what they are, how long they waited, GRAIN, THE DAY");
        for (int slot = 0; slot < 2; slot++) {
            PigeonMail x = Check.behind("M1La10Lb10Le10Li90Lj93Lj90C11C12C13", 1);
            x.put(5, 3);
            x.send(2, 0);
            x.feed(5);
            due("keep", x.keep(slot), 1);
            int[] looks = looks(x);
            x.put(5, 4);
            x.send(0, 2);
            x.feed(9);
            Check.days(x, 9);
            due("it is not as it was", Arrays.equals(looks(x), looks) ? 1 : 0, 0);
            due("again", x.again(slot), 1);
            due("it is as it was", Arrays.equals(looks(x), looks) ? 1 : 0, 1);
            int[] fates = {2, 3, 1, 0, 0, 0};
            int[] holes = {0, 1, 4, 8, 9, 3};
            for (int l = 0; l < 6; l++) {
                due("letter(" + l + ", 3)", x.letter(l, 3), fates[l]);
                due("letter(" + l + ", 0)", x.letter(l, 0), holes[l]);
                due("letter(" + l + ", 4)", x.letter(l, 4), l == 2 ? 0 : 1);
            }
            due("grain", x.about(3), 5);
            due("rows", x.clerk(0, 0) * 100 + x.clerk(1, 0) * 10 + x.clerk(2, 0), 110);
        }
    }

    private static int[] looks(PigeonMail x) {
        int[] all = new int[8 + 18 + 3];
        int at = 0;
        for (int what = 0; what < 8; what++) {
            all[at++] = x.about(what);
        }
        for (int l = 0; l < 6; l++) {
            all[at++] = x.letter(l, 0);
            all[at++] = x.letter(l, 3);
            all[at++] = x.letter(l, 4);
        }
        for (int c = 0; c < 3; c++) {
            all[at++] = x.clerk(c, 0);
        }
        return all;
    }

    private static void slotsKeptOverAndGoneOnFromTwice() {
        CHECK.sentence("29, 30: as they were kept last, as often as one goes on");
        PigeonMail x = Check.roomOf("M9La90");
        x.keep(0);
        x.day();
        x.keep(1);
        x.day();
        due("keep(0) once more", x.keep(0), 2);
        x.day();
        for (int i = 0; i < 3; i++) {
            due("again(1)", x.again(1), 1);
            due("waited", x.letter(0, 4), 1);
            x.day();
            due("again(0)", x.again(0), 2);
            due("waited", x.letter(0, 4), 2);
            x.day();
        }
    }

    private static void slotsNoActsWhenOneGoesOn() {
        CHECK.sentence("29, 30: no ACTS when one goes on");
        PigeonMail x = Check.roomOf("M0");
        for (int i = 0; i < 20; i++) {
            x.feed(1);
        }
        due("keep(0)", x.keep(0), 0);
        due("about(9), acts stay as one keeps", x.about(9), 14);
        due("undo()", x.undo(), 13);
        due("again(0)", x.again(0), 0);
        due("about(3)", x.about(3), 20);
        due("about(9)", x.about(9), 0);
        due("undo()", x.undo(), LATE);
        due("about(3)", x.about(3), 20);
        x.feed(4);
        due("about(9)", x.about(9), 1);
        due("undo()", x.undo(), 0);
        due("about(3)", x.about(3), 20);
        CHECK.sentence("30: TOLD, THE SEED, THE TEXT are not kept");
        x.tell(3, 1);
        x.seed(5);
        x.write('C');
        x.again(0);
        due("about(10)", x.about(10), 1);
        due("about(11)", x.about(11), 3);
        due("seed(0)", x.seed(0), 5);
    }
}
