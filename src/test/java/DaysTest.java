/** Promises 15 to 21: days to come, rows, what is saved, quiet, judged, shares. */
public final class DaysTest {
    private static final Check CHECK = new Check("DaysTest");

    public static void main(String[] args) {
        aheads();
        hatches();
        rows();
        saved();
        quiet();
        judgeEach();
        judgeRows();
        judgeRefusals();
        shares();
        CHECK.end();
    }

    private static void due(String call, long got, long want) {
        CHECK.due(call, got, want);
    }

    private static void aheads() {
        PigeonMail x = Check.roomOf("M1La10Lb20Le20Le90C11");
        int[][] want = {{15, 0, 0, 0}, {10, 4, 1, 0}, {0, 12, 0, 3}, {0, 12, 0, 3}};
        for (int n = 0; n < want.length; n++) {
            for (int what = 0; what < 4; what++) {
                due("15: ahead(" + n + ", " + what + ")", x.ahead(n, what), want[n][what]);
            }
        }
        due("15: ahead(20, 3)", x.ahead(20, 3), 3);
        due("15: nothing changed", x.about(4) + x.about(9) + x.about(2), 15);
        due("15: BAD n", x.ahead(21, 0), PigeonMail.BAD);
        due("15: BAD n", x.ahead(-1, 0), PigeonMail.BAD);
        due("15: BAD n", x.ahead(Integer.MAX_VALUE, 0), PigeonMail.BAD);
        due("15: BAD what", x.ahead(0, 4), PigeonMail.BAD);
        due("15: BAD what", x.ahead(0, -1), PigeonMail.BAD);
        PigeonMail far = Check.roomOf("M9La90");
        due("15: grain for 9 days", far.ahead(17, 2), 1);
        due("15: flown behind them", far.ahead(18, 3), 1);
    }

    private static void hatches() {
        PigeonMail x = Check.roomOf("M1La10Lb10Lc52Le93Le93Ll50C21");
        due("16: tomorrow", x.hatches(0), 1);
        due("16: flown at once", x.hatches(1), 1);
        due("16: a telegram", x.hatches(2), 2);
        due("16: a petition in company", x.hatches(3), 10);
        due("16: its company", x.hatches(4), 10);
        due("16: answered by then", x.hatches(5), PigeonMail.NONE);
        x.day();
        due("16: now", x.hatches(0), 0);
        due("16: flown now", x.hatches(1), 0);
        due("16: one day nearer", x.hatches(2), 1);
        due("16: answered", x.hatches(5), PigeonMail.NONE);
        due("16: nothing changed", x.about(2), 1);
        due("16: UNKNOWN", x.hatches(6), PigeonMail.UNKNOWN);
        due("16: UNKNOWN", x.hatches(-1), PigeonMail.UNKNOWN);
        PigeonMail out = Check.roomOf("M9Li31Li50C11");
        due("16: put out to where it is answered", out.hatches(1), PigeonMail.NONE);
        due("16: the cuckoo", out.hatches(0), 3);
    }

    private static void rows(String text, int few, int way) {
        PigeonMail x = Check.roomOf(text);
        due("17: rows(false) of " + text, x.rows(false), few);
        due("17: rows(true) of " + text, x.rows(true), way);
        due("17: nothing changed", x.about(9), 0);
    }

    private static void rows() {
        rows("M9", 0, 0);
        rows("M9La10", 1, 0);
        rows("M0La10Lb90", 2, 0);
        // Behind 9 days two petitions of 9 lie yet.
        rows("M9La93La93", 0, 0);
        rows("M9C21", 0, 1);
        rows("M9C21C21C21", 0, 111);
        rows("M9La10Li10C01", 1, 1);
        rows("M9Li10C01", 0, 3);
        rows("M9Le10C01", 0, 2);
        rows("M9La10Li10C11C11", 0, 13);
        rows("M9La10Lb10Li10C01C02", 0, 31);
        rows("M9La10Lb10Li10C02C01", 0, 13);
        rows("M9Li10Le10La10C01C01C01", 0, 123);
        PigeonMail x = Check.roomOf("M9La10Lb20C21");
        x.day();
        due("17: birds that are there count", x.rows(false), 1);
        due("17: the way", x.rows(true), 1);
        due("17: where it is", x.clerk(0, 0), 2);
    }

    private static void saved() {
        due("18: all alike: the least", Check.roomOf("M9Li90").saved(0), 0);
        due("18: where it is answered", Check.roomOf("M9La50C11").saved(0), 4);
        due("18: where it is answered", Check.roomOf("M9La50C23").saved(0), 8);
        due("18: company for a petition", Check.roomOf("M9La33Lb90").saved(0), 1);
        due("18: not where two are", Check.roomOf("M9La33Lb90Lb90Lc90").saved(0), 2);
        due("18: its own, though two are there", Check.roomOf("M9Ld33Ld90").saved(0), 3);
        due("18: its own company", Check.roomOf("M9Ld33Ld90").saved(1), 0);
        PigeonMail x = Check.roomOf("M9La10Lb90Lc10C01");
        x.day();
        due("18: LATE: answered", x.saved(0), PigeonMail.LATE);
        due("18: LATE: hatched", x.saved(2), PigeonMail.LATE);
        due("18: UNKNOWN", x.saved(3), PigeonMail.UNKNOWN);
        due("18: UNKNOWN", x.saved(-1), PigeonMail.UNKNOWN);
        due("18: it lies", x.saved(1), 0);
        due("18: nothing changed", x.letter(1, 0), 1);
        // Two birds fill a hole.
        PigeonMail birds = Check.roomOf("M9La10La10Ll90");
        birds.day();
        due("18: not where two birds are", birds.saved(2), 1);
        PigeonMail flown = Check.roomOf("M0La10");
        flown.day();
        due("18: LATE: flown", flown.saved(0), PigeonMail.LATE);
    }

    private static void quiet(String text, int want) {
        PigeonMail x = Check.roomOf(text);
        due("19: quiet() of " + text, x.quiet(), want);
        due("19: nothing changed", x.about(5), 0);
    }

    private static void quiet() {
        quiet("M9", 0);
        quiet("M9La10Lb10", 3);
        quiet("M9La10Lb10C01", 1);
        quiet("M9La90Lb90C01", 0);
        quiet("M9La90", 1);
        quiet("M9La93La93", 0);
        quiet("M9La93Lb93", 3);
        quiet("M9La10Lb10Lc10Ld10Le10Lf10", 63);
        // Letter 1 alone is enough: the clerk does the others.
        quiet("M9La20Le10Lb20C01", 2);
        // One that hatched already is no noise.
        PigeonMail x = Check.roomOf("M9La10Lb10Lc20C01");
        x.day();
        due("19: behind a day", x.quiet(), 0);
        PigeonMail y = Check.roomOf("M0La10Lb20Lc20");
        y.day();
        due("19: those that lie", y.quiet(), 6);
    }

    private static void judge(String text, int n, long row, int want) {
        PigeonMail x = Check.roomOf(text);
        due("20: judge(" + n + ", " + row + ") of " + text, x.judge(n, row), want);
        due("20: nothing changed", x.about(9) + x.about(2), 0);
    }

    private static void judgeEach() {
        String text = "M0La10Lb50Lb50C01";
        int none = PigeonMail.NONE;
        judge(text, 1, 0L, none);
        judge(text, 1, 1L, 0);
        judge(text, 1, 10L, 0);
        judge(text, 1, 100L, 0);
        judge(text, 1, 1011L, none);
        judge(text, 1, 1012L, 0);
        judge(text, 1, 1099L, 0);
        judge(text, 1, 1000L, 0);
        judge(text, 1, 1001L, 0);
        judge(text, 1, 1100L, none);
        judge(text, 1, 1302L, 0);
        judge(text, 1, 2001L, none);
        judge(text, 1, 2009L, none);
        judge(text, 1, 2000L, 0);
        judge(text, 1, 2011L, 0);
        judge(text, 1, 2101L, 0);
        judge(text, 1, 3001L, none);
        judge(text, 1, 3002L, none);
        judge(text, 1, 3000L, 0);
        judge(text, 1, 3003L, 0);
        judge(text, 1, 3011L, 0);
        judge(text, 1, 3101L, 0);
        judge(text, 1, 4000L, none);
        judge(text, 1, 4001L, 0);
        judge(text, 1, 4004L, 0);
        judge(text, 1, 4010L, 0);
        judge(text, 1, 4200L, none);
        judge(text, 1, 4300L, 0);
        judge(text, 1, 5000L, 0);
        judge(text, 1, 9999L, 0);
    }

    private static void judgeRows() {
        String text = "M0La10Lb50Lb50C01";
        int none = PigeonMail.NONE;
        // A day: letter 0 is answered.
        judge(text, 2, 4001L, none);
        judge(text, 2, 4000L, 1);
        // The clerk is sent away, so that it flies; fed, it is hatched.
        judge(text, 3, 3001_0000_4003L, none);
        judge(text, 3, 3001_0000_4002L, 2);
        judge(text, 4, 3001_2001_0000_4002L, none);
        judge(text, 4, 3001_2001_0000_1005L, 3);
        // Put where there was no room ahead of another put.
        judge(text, 2, 1001_1100L, 0);
        judge(text, 2, 1100_1001L, none);
        judge(text, 3, 1100_1001_1101L, 2);
        judge(text, 2, 3001_3001L, 1);
        judge(text, 3, 3001_3000_3001L, none);
        judge(text, 4, 0L, none);
        judge(text, 4, 4101L, none);
        judge(text, 4, 4102L, 3);
        // The first of several.
        judge(text, 4, 5000_5000L, 2);
        judge(text, 4, 9999_9999_9999_9999L, 0);
        PigeonMail x = Check.roomOf("M9");
        for (int i = 0; i < 11; i++) {
            x.feed(9);
        }
        due("20: fed at 99", x.judge(1, 2009L), none);
    }

    private static void judgeRefusals() {
        int bad = PigeonMail.BAD;
        PigeonMail x = Check.roomOf("M0La10");
        due("20: BAD n", x.judge(0, 0L), bad);
        due("20: BAD n", x.judge(5, 0L), bad);
        due("20: BAD n", x.judge(-1, 0L), bad);
        due("20: BAD n", x.judge(Integer.MIN_VALUE, 0L), bad);
        due("20: BAD row", x.judge(1, -1L), bad);
        due("20: BAD row", x.judge(1, 10000L), bad);
        due("20: BAD row", x.judge(2, 1_0000_0000L), bad);
        due("20: BAD row", x.judge(3, 1_0000_0000_0000L), bad);
        due("20: BAD row", x.judge(4, 1_0000_0000_0000_0000L), bad);
        due("20: BAD row", x.judge(4, Long.MAX_VALUE), bad);
        due("20: BAD row", x.judge(4, Long.MIN_VALUE), bad);
        due("20: the longest row", x.judge(3, 9999_9999_9999L), 0);
    }

    private static void share(String text, int clerk, int upper, int lower) {
        PigeonMail x = Check.roomOf(text);
        due("21: share(" + clerk + ", true) of " + text, x.share(clerk, true), upper);
        due("21: share(" + clerk + ", false) of " + text, x.share(clerk, false), lower);
        due("21: nothing changed", x.about(9) + x.about(2), 0);
    }

    private static void shares() {
        share("M9C01", 0, 0, 1);
        share("M9La10C01", 0, 1, 1);
        share("M9La10C11", 0, 0, 1);
        share("M9La10C01C01", 0, 1, 2);
        share("M9La10C01C01", 1, 1, 2);
        share("M9La10C01C01C01", 2, 1, 3);
        share("M9La10Lb10C01C01C01", 1, 2, 3);
        share("M9La10Lb10Lc10C01C02", 0, 1, 1);
        share("M9La10Lb10C01C02", 0, 1, 2);
        share("M9La10Lb10C01C02", 1, 3, 2);
        share("M9La10Lb10C01C02C11", 1, 3, 2);
        share("M9La10Lb10C01C02C11", 2, 0, 1);
        // A clerk that does harm: found by search, agreed on by the model.
        share("M9La93Le93Lj33Li11Li11Lj40C11C03C12", 0, -1, 3);
        // Those that fly count as those that hatch do.
        share("M0La10C01", 0, 1, 1);
        PigeonMail x = Check.roomOf("M9La10C01");
        due("21: UNKNOWN", x.share(1, true), PigeonMail.UNKNOWN);
        due("21: UNKNOWN", x.share(-1, false), PigeonMail.UNKNOWN);
    }
}
