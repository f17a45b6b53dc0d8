/** Promises 15 to 21 at their edges: one method a sentence of the document. */
public final class EdgesDaysTest {
    private static final Check CHECK = new Check("EdgesDaysTest");
    private static final int UNKNOWN = PigeonMail.UNKNOWN, BAD = PigeonMail.BAD, LATE = PigeonMail.LATE,
            NONE = PigeonMail.NONE;
    private static final String SIX = "La10Lb10Lc10Ld10Le10Lf10", HOLES = "abcdefghijkl";

    public static void main(String[] args) {
        in0To20Days();
        whoIsWhatInNDays();
        aheadIsAsTheDaysAre();
        hatches1OrMore();
        hatches0IsNow();
        orFlownFirst();
        hatchesNone();
        hatchesOfLetters();
        rowsNoClerks();
        rowsAllClerksToAllRows();
        rowsFewest();
        rowsOfLikeOnesTheLeast();
        rowsBehind9Days();
        rowsHatchedOrFlown();
        savedItsOwnOrWhereItCanBePut();
        savedLatest();
        savedLatestOfAll();
        savedOfLikeOnesTheLeast();
        savedRefusals();
        quietNoneAndAll();
        quietTheFewest();
        quietOfLikeOnesTheLeast();
        quietNext9Days();
        quietLettersThatLie();
        judge1To4Doings();
        judge4NFigures();
        judgeEachFourFigures();
        judgePutByEachFate();
        judgeWhatIsAheadBeingDone();
        judgeTheFirst();
        shareOfEachClerk();
        shareOthersAreNotThere();
        shareInTheMean();
        shareBehind9Days();
        shareHatchedOrFlown();
        shareLessThan0();
        CHECK.end();
    }

    private static void due(String call, long got, long want) {
        CHECK.due(call, got, want);
    }

    // ---- promise 15

    private static void in0To20Days() {
        CHECK.sentence("15: IN n DAYS (0 .. 20)");
        // It hatches on day 9 and eats on eleven days, so that it flies on day 20.
        PigeonMail x = Check.roomOf("M9Lf90");
        x.feed(2);
        for (int n = 0; n <= 20; n++) {
            due("ahead(" + n + ", 0)", x.ahead(n, 0), n < 9 ? 1 : 0);
            due("ahead(" + n + ", 1)", x.ahead(n, 1), 0);
            due("ahead(" + n + ", 2)", x.ahead(n, 2), n >= 9 && n < 20 ? 1 : 0);
            due("ahead(" + n + ", 3)", x.ahead(n, 3), n == 20 ? 1 : 0);
        }
        for (int n : Check.outside(0, 20)) {
            due("ahead(" + n + ", 0)", x.ahead(n, 0), BAD);
        }
        due("about(2)", x.about(2), 0);
    }

    private static void whoIsWhatInNDays() {
        CHECK.sentence("15: who LIES (what = 0), is ANSWERED (1), HATCHED (2), FLOWN (3); BAD: what");
        PigeonMail x = Check.roomOf("M1La10Lb10Le10Li90Lj90Lk90C11");
        int[] now = {63, 0, 0, 0};
        int[] next = {56, 4, 1, 2};
        int[] last = {0, 4, 0, 59};
        for (int what = 0; what < 4; what++) {
            due("ahead(0, " + what + ")", x.ahead(0, what), now[what]);
            due("ahead(1, " + what + ")", x.ahead(1, what), next[what]);
            due("ahead(20, " + what + ")", x.ahead(20, what), last[what]);
        }
        for (int what : Check.outside(0, 3)) {
            due("ahead(1, " + what + ")", x.ahead(1, what), BAD);
        }
        due("BAD n and what", x.ahead(21, 4), BAD);
        due("no room", new PigeonMail().ahead(20, 0), 0);
    }

    private static void aheadIsAsTheDaysAre() {
        CHECK.sentence("15: as it is when so many DAYS are done");
        String text = "M4Li21Li43Le13Le52La31La90C21C01";
        for (int n = 0; n <= 20; n++) {
            PigeonMail done = Check.behind(text, n);
            PigeonMail x = Check.roomOf(text);
            for (int what = 0; what < 4; what++) {
                due("ahead(" + n + ", " + what + ")", x.ahead(n, what), done.about(4 + what));
            }
        }
    }

    // ---- promise 16

    private static void hatches1OrMore() {
        CHECK.sentence("16: in how many DAYS (1 .. 20) a LETTER is HATCHED");
        for (int w = 1; w <= 9; w++) {
            for (int k = 0; k <= 3; k++) {
                int needs = k == 2 ? Math.max(1, w / 2) : w;
                PigeonMail x = Check.roomOf("M9Lj" + w + k);
                for (int d = 0; d <= needs; d++) {
                    due("hatches(0) of " + w + k + " behind " + d, x.hatches(0), needs - d);
                    x.day();
                }
            }
        }
        PigeonMail petitions = Check.roomOf("M9La93La93");
        due("a petition in company", petitions.hatches(0) * 100 + petitions.hatches(1), 1010);
        // Four lie together, three of them petitions: the plain one hatches on day 9, the others need 2 more each.
        PigeonMail four = Check.behind("M9Li11Li93Le11Le93La90La93", 1);
        due("the latest that is told here", four.hatches(5), 10);
    }

    private static void hatches0IsNow() {
        CHECK.sentence("16: 0: now");
        PigeonMail x = Check.roomOf("M2La10");
        due("ahead of it", x.hatches(0), 1);
        x.day();
        due("hatched", x.hatches(0), 0);
        x.day();
        due("hatched for two days", x.hatches(0), 0);
        x.day();
        due("it is flown", x.letter(0, 3), 3);
        due("flown", x.hatches(0), 0);
        x.undo();
        x.undo();
        x.undo();
        due("undone", x.hatches(0), 1);
    }

    private static void orFlownFirst() {
        CHECK.sentence("16: HATCHED, or FLOWN first");
        PigeonMail x = Check.roomOf("M0La30Lb30Lc52");
        due("it flies on the day on which it hatches", x.hatches(0), 3);
        due("so does the next", x.hatches(1), 3);
        due("so does the telegram", x.hatches(2), 2);
    }

    private static void hatchesNone() {
        CHECK.sentence("16: NONE");
        PigeonMail x = Check.roomOf("M9La10Lb10Lc20Li90C01");
        due("answered by then", x.hatches(0), NONE);
        due("not answered by then", x.hatches(1), 1);
        due("answered on its last day", x.hatches(2), NONE);
        due("in another row", x.hatches(3), 9);
        x.day();
        due("answered", x.hatches(0), NONE);
        due("put out to where it is answered", Check.roomOf("M9Li31Li50C11").hatches(1), NONE);
        due("put out too late to be answered", Check.roomOf("M9Li31Li30C11").hatches(1), 3);
    }

    private static void hatchesOfLetters() {
        CHECK.sentence("16: UNKNOWN");
        for (int letters = 0; letters <= 6; letters++) {
            PigeonMail x = Check.roomOf("M9" + SIX.substring(0, 4 * letters));
            for (int l = 0; l < letters; l++) {
                due("hatches(" + l + ")", x.hatches(l), 1);
            }
            for (int l : Check.outside(0, letters - 1)) {
                due("hatches(" + l + ") of " + letters, x.hatches(l), UNKNOWN);
            }
        }
    }

    // ---- promise 17

    private static void rows(String text, int few, int way) {
        PigeonMail x = Check.roomOf(text);
        due("rows(false) of " + text, x.rows(false), few);
        due("rows(true) of " + text, x.rows(true), way);
    }

    private static void rowsNoClerks() {
        CHECK.sentence("17: the way (0: no CLERKS)");
        PigeonMail x = new PigeonMail();
        due("rows(true) of nothing", x.rows(true), 0);
        due("rows(false) of nothing", x.rows(false), 0);
        rows("M0", 0, 0);
        rows("M0La10", 1, 0);
        rows("M0" + SIX, 6, 0);
        rows("M9" + SIX, 6, 0);
    }

    private static void rowsAllClerksToAllRows() {
        CHECK.sentence("17: all ways to send all CLERKS to ROWS (figures, CLERK 0's the highest, 1 more each)");
        String[] letter = {"La10", "Lf10", "Lk10"};
        for (int from = 0; from < 3; from++) {
            String clerk = "C" + from + "1";
            for (int a = 0; a < 3; a++) {
                rows("M9" + letter[a] + clerk, 0, a + 1);
            }
            // As many letters as clerks, all for the first day: each clerk is needed.
            rows("M9Li10Lj10" + clerk + clerk, 0, 33);
            rows("M9Li10Lj10Lk10" + clerk.repeat(3), 0, 333);
            rows("M9La10Lb10Lc10" + clerk.repeat(3), 0, 111);
            rows("M9Lk10Lf10La10" + clerk.repeat(3), 0, 123);
        }
        // Of clerks that answer 1, 2 and 3 each row needs just one.
        rows("M9Li10La10La10Le10Le10Lf10C01C02C03", 0, 312);
        rows("M9Li10La10La10Le10Le10Lf10C03C02C01", 0, 213);
        rows("M9La10Li10Li10Le10Le10Lf10C03C01C02", 0, 213);
        rows("M9La10Li10Li10Lj10Le10Lf10C03C02C01", 0, 321);
    }

    private static void rowsFewest() {
        CHECK.sentence("17: fewest LETTERS: how few");
        rows("M9La10Li10Lj10C01", 2, 1);
        rows("M9La10Li10Lj10C02", 1, 3);
        rows("M9La10Li10Lj10C03", 1, 3);
        rows("M9La10Lb10Lc10Ld10La10Lb10C21C21C21", 3, 111);
        rows("M9Le11Le90Li11Li90C01", 1, 2);
    }

    private static void rowsOfLikeOnesTheLeast() {
        CHECK.sentence("17: of like ones the least");
        for (int from = 0; from < 3; from++) {
            String clerk = "C" + from + "1";
            rows("M9" + clerk, 0, 1);
            rows("M9" + clerk + clerk, 0, 11);
            rows("M9" + clerk.repeat(3), 0, 111);
            rows("M9Li10" + clerk + clerk, 0, 13);
            rows("M9Li10" + clerk.repeat(3), 0, 113);
            rows("M9La10Le10" + clerk, 1, 1);
            rows("M9Le10Li10" + clerk, 1, 2);
        }
    }

    private static void rowsBehind9Days() {
        CHECK.sentence("17: behind 9 DAYS");
        rows("M9La90", 1, 0);
        rows("M9La93La93", 0, 0);
        PigeonMail x = Check.behind("M9La93La93", 1);
        due("what is hatched on day 9 from now", x.rows(false), 2);
        rows("M9La93La90", 1, 0);
    }

    private static void rowsHatchedOrFlown() {
        CHECK.sentence("17: LETTERS are HATCHED or FLOWN");
        rows("M0La10Lb50", 2, 0);
        due("hatched now", Check.behind("M9La10", 1).rows(false), 1);
        due("flown now", Check.behind("M0La10", 1).rows(false), 1);
        PigeonMail x = Check.behind("M1La10Lb10Le10Li90C11", 1);
        due("one hatched, one flown, one answered, one that lies", x.rows(false), 2);
        due("the way", x.rows(true), 3);
    }

    // ---- promise 18

    private static void savedItsOwnOrWhereItCanBePut() {
        CHECK.sentence("18: the HOLE, its own or one where it can be PUT");
        for (int h = 0; h < 12; h++) {
            char c = HOLES.charAt(h);
            due("its own, " + h, Check.roomOf("M9L" + c + "33L" + c + "90").saved(0), h);
            if (h > 0) {
                due("another, " + h, Check.roomOf("M9La33L" + c + "90").saved(0), h);
                due("one where two are, " + h, Check.roomOf("M9La33L" + c + "90L" + c + "90").saved(0), 0);
            }
        }
        PigeonMail birds = Check.behind("M9La10La10Lb90", 1);
        due("not where two birds are", birds.saved(2), 1);
        due("not where a bird and a letter are", Check.behind("M9La10La90Lb90", 1).saved(2), 1);
        due("where a bird is", Check.behind("M9La10Lb90", 1).saved(1), 0);
        due("where two flown were", Check.behind("M0La10La10Lb90", 1).saved(2), 0);
        due("where two answered were", Check.behind("M9La10La10Li90C02", 1).saved(2), 0);
        PigeonMail three = Check.behind("M9Li11Li93Le90Le90", 1);
        due("three are there", three.hole(4), 14);
        due("its own, where three are", three.saved(1), 4);
    }

    private static void savedLatest() {
        CHECK.sentence("18: by which, there now, it is HATCHED latest");
        due("where it is alone", Check.roomOf("M9La33").saved(0), 0);
        due("where its company lies for long", Check.roomOf("M9La33Lb10Lc90").saved(0), 2);
        due("where its company hatches ahead of it", Check.roomOf("M9La10Lb33").saved(1), 0);
        due("a plain one waits as long anywhere", Check.roomOf("M9Lk30Lb90").saved(0), 0);
    }

    private static void savedLatestOfAll() {
        CHECK.sentence("18: in 20 DAYS not: latest of all");
        for (int row = 0; row < 3; row++) {
            due("row " + row, Check.roomOf("M9Lf33Lg90C" + row + "1").saved(0), 4 * row);
            due("row " + row + ", full at first", Check.roomOf("M9Lf20" + twoIn(4 * row) + "C" + row + "3").saved(0),
                    4 * row + 1);
        }
        due("where it would come too late", Check.roomOf("M9La10Le10C11").saved(0), 4);
        due("where the least is answered first", Check.roomOf("M9Le10La10C11").saved(1), 0);
    }

    private static String twoIn(int hole) {
        return ("L" + HOLES.charAt(hole) + "90").repeat(2);
    }

    private static void savedOfLikeOnesTheLeast() {
        CHECK.sentence("18: of like ones the least");
        for (int h = 0; h < 12; h++) {
            due("from " + h, Check.roomOf("M9L" + HOLES.charAt(h) + "50").saved(0), 0);
            due("from " + h + ", 0 and 1 full", Check.roomOf("M9L" + HOLES.charAt(Math.max(2, h)) + "50" + twoIn(0)
                    + twoIn(1)).saved(0), 2);
        }
        due("of two with company", Check.roomOf("M9La33Lh90Lc90").saved(0), 2);
        due("of its own and one more with company", Check.roomOf("M9Ld33Ld90Lc90").saved(0), 2);
    }

    private static void savedRefusals() {
        CHECK.sentence("18: UNKNOWN; LATE: it does not LIE");
        PigeonMail x = Check.behind("M1La10Lb10Le10Li90C11", 1);
        due("hatched", x.saved(0), LATE);
        due("flown", x.saved(1), LATE);
        due("answered", x.saved(2), LATE);
        due("the last one", x.saved(3), 4);
        for (int l : Check.outside(0, 3)) {
            due("saved(" + l + ")", x.saved(l), UNKNOWN);
        }
    }

    // ---- promise 19

    private static void quiet(String text, int want) {
        due("quiet() of " + text, Check.roomOf(text).quiet(), want);
    }

    private static void quietNoneAndAll() {
        CHECK.sentence("19: none at the fewest, all at the most");
        due("quiet() of nothing", new PigeonMail().quiet(), 0);
        quiet("M9", 0);
        quiet("M9C01", 0);
        quiet("M9La10C01", 0);
        quiet("M9" + SIX, 63);
        quiet("M9" + SIX + "C21C22C23", 63);
        quiet("M0" + SIX, 63);
        quiet("M9" + SIX + "C03C13", 1);
    }

    private static void quietTheFewest() {
        CHECK.sentence("19: the fewest LETTERS");
        quiet("M9La20Le10Lb20C01", 2);
        // Letters 0 and 1 would do as well, 3 as bits, but they are two.
        quiet("M9Lb31La21La20Lb23C01C21", 8);
        PigeonMail x = Check.roomOf("M9Lb31La21La20Lb23C01C21");
        due("one letter at least", x.ahead(9, 2), 8);
    }

    private static void quietOfLikeOnesTheLeast() {
        CHECK.sentence("19: of like ones the least");
        quiet("M9La10Lb10C01", 1);
        quiet("M9La10Lb10Lc10C01", 3);
        quiet("M9La10Lb10Lc10C02", 1);
        quiet("M9Le10Lf10La10Lb10C01C11", 5);
        quiet("M9La10Lb10Lc10Ld10La10Lb10C01", 31);
    }

    private static void quietNext9Days() {
        CHECK.sentence("19: nothing HATCHES in the next 9 DAYS");
        quiet("M9La90", 1);
        quiet("M9La93La93", 0);
        due("a day later", Check.behind("M9La93La93", 1).quiet(), 3);
        quiet("M9La93La90", 3);
        quiet("M9La93Lb93", 3);
    }

    private static void quietLettersThatLie() {
        CHECK.sentence("19: LETTERS that LIE");
        PigeonMail x = Check.behind("M1La10Lb10Le10Li90C11", 1);
        due("one hatched, one flown, one answered", x.quiet(), 8);
        due("birds are no noise", Check.behind("M9La10", 1).quiet(), 0);
        due("flown ones are no noise", Check.behind("M0La10", 1).quiet(), 0);
    }

    // ---- promise 20

    private static void judge1To4Doings() {
        CHECK.sentence("20: n doings (1 .. 4); BAD: n");
        PigeonMail x = Check.roomOf("M0La10C01");
        for (int n = 1; n <= 4; n++) {
            due("judge(" + n + ", 0)", x.judge(n, 0L), NONE);
            due("judge(" + n + ", 2001)", x.judge(n, 2001L), NONE);
            due("judge(" + n + ", 5000)", x.judge(n, 5000L), n - 1);
        }
        for (int n : Check.outside(1, 4)) {
            due("judge(" + n + ", 0)", x.judge(n, 0L), BAD);
            due("judge(" + n + ", -1)", x.judge(n, -1L), BAD);
        }
    }

    private static void judge4NFigures() {
        CHECK.sentence("20: row (0 or more, 4 n figures at most)");
        PigeonMail x = Check.roomOf("M0La10C01");
        long most = 1;
        for (int n = 1; n <= 4; n++) {
            most *= 10000;
            due("judge(" + n + ", " + (most - 1) + ")", x.judge(n, most - 1), 0);
            due("judge(" + n + ", " + most + ")", x.judge(n, most), BAD);
            due("judge(" + n + ", " + (most + 2001) + ")", x.judge(n, most + 2001), BAD);
            due("judge(" + n + ", greatest)", x.judge(n, Long.MAX_VALUE), BAD);
            due("judge(" + n + ", -1)", x.judge(n, -1), BAD);
            due("judge(" + n + ", -2001)", x.judge(n, -2001), BAD);
            due("judge(" + n + ", least)", x.judge(n, Long.MIN_VALUE), BAD);
            // Rows that are short in an int, or less than 0 there.
            due("judge(" + n + ", 2 to 32)", x.judge(n, 1L << 32), n == 4 ? 1 : n == 3 ? 0 : BAD);
            due("judge(" + n + ", 2 to 63 less 2 to 32)", x.judge(n, Long.MAX_VALUE - (1L << 32) + 1), BAD);
        }
    }

    /** Whether one doing can be in the room of judgeEachFourFigures, as the document says, figure by figure. */
    private static boolean canBe(int doing) {
        int whose = doing / 100 % 10;
        int third = doing / 10 % 10;
        int last = doing % 10;
        int[] fates = {2, 3, 1, 0, 0, 0};
        switch (doing / 1000) {
            case 0:
                return doing == 0;
            case 1:
                // Letters 3, 4, 5 lie in holes 8, 9, 9; a bird is in hole 0.
                return whose == 3 && third * 10 + last < 12 && doing % 100 != 8 && doing % 100 != 9
                        || (whose == 4 || whose == 5) && third * 10 + last < 12 && doing % 100 != 9;
            case 2:
                return whose == 0 && third == 0 && last > 0;
            case 3:
                // Clerk 0 is at row 1, clerk 1 at row 2, clerk 2 at row 0.
                return third == 0 && whose < 3 && last < 3 && last != (whose + 1) % 3;
            case 4:
                return third == 0 && whose < 6 && fates[whose] == last;
            default:
                return false;
        }
    }

    private static void judgeEachFourFigures() {
        CHECK.sentence("20: told as four figures each");
        for (int hundred = 0; hundred < 100; hundred++) {
            PigeonMail x = Check.behind("M1La10Lb10Le10Li90Lj93Lj90C11C11C11", 1);
            x.send(1, 2);
            x.send(2, 0);
            for (int doing = 100 * hundred; doing < 100 * hundred + 100; doing++) {
                due("judge(1, " + doing + ")", x.judge(1, doing), canBe(doing) ? NONE : 0);
            }
        }
    }

    private static void judgePutByEachFate() {
        CHECK.sentence("20: 1, a LETTER, two figures of a HOLE: PUT");
        PigeonMail x = Check.behind("M9La90Lb10Lb90Lc10Lc10Ld90", 1);
        due("its own", x.judge(1, 1000L), 0);
        due("a bird and a letter are there", x.judge(1, 1001L), 0);
        due("two birds are there", x.judge(1, 1002L), 0);
        due("one is there", x.judge(1, 1003L), NONE);
        due("the last hole", x.judge(1, 1011L), NONE);
        due("no hole", x.judge(1, 1012L), 0);
        PigeonMail y = Check.behind("M0La90Lb10Lb10", 1);
        due("two flown were there", y.judge(1, 1001L), NONE);
    }

    private static void judgeWhatIsAheadBeingDone() {
        CHECK.sentence("20: what is ahead of it being done");
        PigeonMail x = Check.roomOf("M0La10Lb50Lb50C01");
        due("a day: letter 0 is answered", x.judge(2, 4001L), NONE);
        due("a day: letter 0 does not lie", x.judge(2, 4000L), 1);
        due("sent away: it flies", x.judge(3, 3001_0000_4003L), NONE);
        due("sent away and fed: it is hatched", x.judge(4, 3002_2001_0000_4002L), NONE);
        due("fed 1, two days: it is flown", x.judge(4, 3002_2001_0000_0000L), NONE);
        due("put away: there is room", x.judge(2, 1100_1001L), NONE);
        due("no room yet", x.judge(2, 1001_1100L), 0);
        due("put where it is already", x.judge(2, 1105_1105L), 1);
        due("sent where it is already", x.judge(2, 3001_3001L), 1);
        due("sent there and back", x.judge(2, 3001_3000L), NONE);
        due("fed does not lose the letter", x.judge(4, 2009_2009_2009_4000L), NONE);
        due("a put letter lies", x.judge(2, 1011_4000L), NONE);
        due("the room is as it was", x.about(3) + x.letter(0, 0) + x.clerk(0, 0) + x.about(9), 0);
        PigeonMail full = Check.roomOf("M9");
        for (int i = 0; i < 10; i++) {
            full.feed(9);
        }
        due("99", full.about(3), 99);
        due("to be fed at 99 can be", full.judge(4, 2001_2009_2001_2009L), NONE);
    }

    private static void judgeTheFirst() {
        CHECK.sentence("20: the place (from 0) of the first that can not be; NONE: none");
        PigeonMail x = Check.roomOf("M0La90C01");
        for (int n = 1; n <= 4; n++) {
            for (int bad = 0; bad < 1 << n; bad++) {
                long row = 0;
                int first = NONE;
                for (int i = 0; i < n; i++) {
                    boolean can = (bad >> i & 1) == 0;
                    first = !can && first == NONE ? i : first;
                    row = row * 10000 + (can ? 2001 : 4901);
                }
                due("judge(" + n + ", " + row + ")", x.judge(n, row), first);
            }
        }
    }

    // ---- promise 21

    private static void share(String text, int clerk, int upper, int lower) {
        share(text, Check.roomOf(text), clerk, upper, lower);
    }

    private static void share(String what, PigeonMail x, int clerk, int upper, int lower) {
        due("share(" + clerk + ", true) of " + what, x.share(clerk, true), upper);
        due("share(" + clerk + ", false) of " + what, x.share(clerk, false), lower);
    }

    private static void shareOfEachClerk() {
        CHECK.sentence("21: SHARE of a CLERK; UNKNOWN");
        for (int clerks = 0; clerks <= 3; clerks++) {
            String text = "M9La10Le10Li10" + "C01C11C21".substring(0, 3 * clerks);
            for (int c = 0; c < clerks; c++) {
                share(text, c, 1, 1);
            }
            PigeonMail x = Check.roomOf(text);
            for (int c : Check.outside(0, clerks - 1)) {
                due("share(" + c + ", true) of " + clerks, x.share(c, true), UNKNOWN);
                due("share(" + c + ", false) of " + clerks, x.share(c, false), UNKNOWN);
            }
        }
        due("no clerks", new PigeonMail().share(0, true), UNKNOWN);
    }

    private static void shareOthersAreNotThere() {
        CHECK.sentence("21: CLERKS come one by one (others are not there)");
        share("M9La10C01C01", 0, 1, 2);
        share("M9La10C01C01", 1, 1, 2);
        share("M9La10C01C11", 0, 1, 1);
        share("M9La10C01C11", 1, 0, 1);
        share("M9C01C01C01", 1, 0, 1);
    }

    private static void shareInTheMean() {
        CHECK.sentence("21: in each order as likely, in the mean: a FRACTION in least terms");
        share("M9La10C01C01C01", 0, 1, 3);
        share("M9La10C01C01C01", 2, 1, 3);
        share("M9La10Lb10C01C01C01", 0, 2, 3);
        share("M9La10Lb10C01C02C21", 0, 1, 2);
        share("M9La10Lb10C01C02C21", 1, 3, 2);
        // Clerk 0 has what the cuckoo puts out, unless clerk 1 or 2 answers it.
        share("M9Lf11Lf23C01C11C11", 0, 1, 3);
        share("M9Lf11Lf23C01C11C11", 1, 5, 6);
        share("M9Lf11Lf23C01C11C11", 2, 5, 6);
        share("M9La10La10Lb10Lb10Lc10Lc10C03C03", 1, 3, 1);
        share("M9La10La10Lb10Lb10Lc10Lc10C03C03C03", 1, 2, 1);
    }

    private static void shareBehind9Days() {
        CHECK.sentence("21: behind 9 DAYS");
        share("M9La90C01", 0, 1, 1);
        share("M9La93La93C01", 0, 0, 1);
        PigeonMail x = Check.roomOf("M9La93La93C21");
        x.day();
        x.send(0, 0);
        share("a day later", x, 0, 2, 1);
    }

    private static void shareHatchedOrFlown() {
        CHECK.sentence("21: LETTERS that are HATCHED or FLOWN");
        share("M0La10C01", 0, 1, 1);
        share("M0La10Lb10C01", 0, 1, 1);
        PigeonMail x = Check.behind("M1La10Lb10Le10Li90C11", 1);
        share("what is hatched or flown is so with it, too", x, 0, 0, 1);
        x.send(0, 2);
        share("what lies can be saved", x, 0, 1, 1);
    }

    private static void shareLessThan0() {
        CHECK.sentence("21: told above less than 0, if they are");
        // Found by search, agreed on by the model.
        share("M9La93Le93Lj33Li11Li11Lj40C11C03C12", 0, -1, 3);
    }
}
