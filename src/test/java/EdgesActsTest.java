/** Promises 10 to 14 at their edges: one method a sentence of the document. */
public final class EdgesActsTest {
    private static final Check CHECK = new Check("EdgesActsTest");
    private static final int UNKNOWN = PigeonMail.UNKNOWN, BAD = PigeonMail.BAD, LATE = PigeonMail.LATE;
    private static final String HOLES = "abcdefghijkl";

    public static void main(String[] args) {
        holesOfTheirRow();
        upToNLetters();
        clerksByNumber();
        theFewestDaysToWaitYet();
        zeroAtLeastWhenAnswered();
        ofLikeOnesTheLeast();
        oneAfterTheOther();
        onlyWhatLiesIsAnswered();
        onlyWhatLiesWaits();
        asLongAsItNeeds();
        asItNeedsThen();
        orLonger();
        theHole4Below();
        inTheLowestRowItStays();
        roomSetAside();
        eachOtherThatLies();
        onlyUrgentOnesPutOut();
        asItHatchesByNumber();
        birdsEatByNumber();
        whereThereIsNoneItIsFlown();
        theDayIsOneMore();
        howManyHatchedInIt();
        putAnyLetterInAnyHole();
        putOnlyWhatLies();
        putIsInAnotherHole();
        putWhereFewerThanTwoAre();
        fed1To9();
        ninetyNineGrainAtMost();
        sentToAnotherRow();
        fourteenActsAtMost();
        theFirstOneIsForgotten();
        onlyTheseAreActs();
        eachActIsUndone();
        CHECK.end();
    }

    private static void due(String call, long got, long want) {
        CHECK.due(call, got, want);
    }

    // ---- promise 10 (a)

    private static void holesOfTheirRow() {
        CHECK.sentence("10: LETTERS that LIE in HOLES of their ROW: 0 .. 3, 4 .. 7, 8 .. 11");
        for (int h = 0; h < 12; h++) {
            for (int row = 0; row < 3; row++) {
                String text = "M9L" + HOLES.charAt(h) + "90C" + row + "1";
                due("answered in " + text, Check.behind(text, 1).about(5), h / 4 == row ? 1 : 0);
            }
        }
    }

    private static void upToNLetters() {
        CHECK.sentence("10: up to n LETTERS");
        String six = "La90La90Lb90Lb90Lc90Lc90";
        for (int n = 1; n <= 3; n++) {
            for (int letters = 0; letters <= 6; letters++) {
                String text = "M9" + six.substring(0, 4 * letters) + "C0" + n;
                int most = Math.min(n, letters);
                due("answered in " + text, Check.behind(text, 1).about(5), (1 << most) - 1);
                most = Math.min(2 * n, letters);
                due("answered in two days in " + text, Check.behind(text, 2).about(5), (1 << most) - 1);
            }
        }
        due("three clerks", Check.behind("M9" + six + "C01C01C02", 1).about(5), 15);
        due("nine can be answered", Check.behind("M9" + six + "C03C03C03", 1).about(5), 63);
    }

    private static void clerksByNumber() {
        CHECK.sentence("10: CLERKS by number");
        // Were clerk 1 to answer first, it would have both letters of row 0, and so more by going there from row 1.
        PigeonMail x = Check.roomOf("M9La90Lb90C01C13");
        due("rests(0, 1, 0): rows 0 and 0, 0 and 1", x.rests(0, 1, 0), 2);
        due("rests(0, 1, 1)", x.rests(0, 1, 1), 0);
        due("rests(1, 0, 0): rows 0 and 0, 1 and 0", x.rests(1, 0, 0), 2);
        // As clerk 0 the same one has both.
        PigeonMail y = Check.roomOf("M9La90Lb90C13C01");
        due("rests(0, 1, 0): rows 0 and 0", y.rests(0, 1, 0), 1);
        due("rests(0, 1, 1)", y.rests(0, 1, 1), 0);
    }

    private static void theFewestDaysToWaitYet() {
        CHECK.sentence("10: that which has the fewest DAYS to wait yet (what it needs less what it waited)");
        due("of 2 and 1", Check.behind("M9La20Lb10C01", 1).about(5), 2);
        due("of 3 and 2", Check.behind("M9La30Lb20C01", 1).about(5), 2);
        due("of 3 and half of 4", Check.behind("M9La30Lb42C01", 1).about(5), 2);
        due("of a petition of 3 in company and 3", Check.behind("M9La33La90Lb30C01", 1).about(5), 4);
        due("of a petition of 3 in company and 4", Check.behind("M9La33La90Lb40C01", 1).about(5), 1);
        // Letter 1 needs more, yet has waited where no clerk is.
        PigeonMail x = Check.roomOf("M9La30Lb90C21");
        Check.days(x, 2);
        due("of 3 less 2 and 9 less 2", x.letter(0, 5) * 10 + x.letter(1, 5), 17);
        x.send(0, 0);
        x.day();
        due("answered is letter 0", x.about(5), 1);
        // What is there later has waited as long.
        PigeonMail y = Check.roomOf("M9La90Le40Lb60C21");
        Check.days(y, 3);
        y.put(1, 2);
        y.send(0, 0);
        y.day();
        due("of 9, 4 and 6 less 3 each", y.about(5), 2);
    }

    private static void zeroAtLeastWhenAnswered() {
        CHECK.sentence("10: 0 at least");
        // Both are overdue, letter 2 by more; so both have 0 to wait, and the least is answered.
        PigeonMail x = Check.roomOf("M9Lf33Lf90Le23Le90Li11Li90C01");
        Check.days(x, 3);
        x.put(0, 0);
        x.put(2, 1);
        due("waited", x.letter(0, 4) * 10 + x.letter(2, 4), 33);
        due("to wait", x.letter(0, 5) + x.letter(2, 5), 0);
        x.day();
        due("answered", x.about(5), 1);
    }

    private static void ofLikeOnesTheLeast() {
        CHECK.sentence("10: of like ones the least");
        String text = "M9La50Lb50Lc50La50Lb50Lc50C01";
        for (int d = 0; d <= 4; d++) {
            due("answered behind " + d, Check.behind(text, d).about(5), (1 << d) - 1);
        }
        due("of unlike kinds", Check.behind("M9Ld22Lc10Lb13La11C01", 1).about(5), 1);
        due("letters 1 and 3 are alike", Check.behind("M9La30Lb20Lc30Ld20C01", 1).about(5), 2);
    }

    private static void oneAfterTheOther() {
        CHECK.sentence("10: one after the other");
        // As letter 0 is answered, the petition needs 1 less, and is then like letter 2, and less.
        due("answered by one clerk", Check.behind("M9La10La43Lb40C02", 1).about(5), 3);
        due("answered by two clerks", Check.behind("M9La10La43Lb40C01C01", 1).about(5), 3);
        due("had they looked at once", Check.behind("M9La10Lb40La43C02", 1).about(5), 3);
    }

    private static void onlyWhatLiesIsAnswered() {
        CHECK.sentence("10: LETTERS that LIE");
        PigeonMail x = Check.roomOf("M1La10Lb10Lc90Ld90C21");
        x.day();
        due("a bird and one flown", x.about(6) * 10 + x.about(7), 12);
        x.send(0, 0);
        x.day();
        due("answered is letter 2", x.about(5), 4);
        x.day();
        due("answered is letter 3", x.about(5), 12);
        x.day();
        due("none is left", x.about(5), 12);
    }

    // ---- promise 10 (b)

    private static void onlyWhatLiesWaits() {
        CHECK.sentence("10: each LETTER that LIES has waited 1 DAY more");
        PigeonMail x = Check.roomOf("M1La10Lb10Le20Li90C11");
        for (int d = 1; d <= 3; d++) {
            x.day();
            due("the bird", x.letter(0, 4), 1);
            due("the flown one", x.letter(1, 4), 1);
            due("the answered one", x.letter(2, 4), 0);
            due("what lies", x.letter(3, 4), d);
        }
    }

    private static void asLongAsItNeeds() {
        CHECK.sentence("10: has waited as long as it needs: is HATCHED");
        for (int k = 0; k <= 3; k++) {
            for (int w = 1; w <= 9; w++) {
                int needs = k == 2 ? Math.max(1, w / 2) : w;
                PigeonMail x = Check.roomOf("M9Lc" + w + k);
                for (int d = 1; d <= needs; d++) {
                    due("day " + d + " of " + w + k, x.day(), d == needs ? 1 : 0);
                    due("about(6) behind it", x.about(6), d == needs ? 1 : 0);
                }
            }
        }
    }

    private static void asItNeedsThen() {
        CHECK.sentence("10: as it needs then");
        // Company that hatches ahead of it, by number, is none.
        due("behind its company", Check.behind("M9La10La13", 1).about(6), 3);
        due("ahead of its company", Check.behind("M9La13La10", 1).about(6), 2);
        // Company that is put out to it ahead of its number is company then.
        due("company comes", Check.behind("M9Li11Li90Le13", 1).about(6), 1);
        due("company comes too late", Check.behind("M9Le13Li11Li90", 1).about(6), 3);
        // A petition that is put out needs what it needs where it is then.
        due("put out to where it is alone", Check.behind("M9Le11Le13", 1).about(6), 3);
        due("put out to company", Check.behind("M9La90Le11Le13", 1).about(6), 2);
    }

    private static void orLonger() {
        CHECK.sentence("10: or longer");
        PigeonMail x = Check.roomOf("M9Lf23Lf90Le23Le90Li11Li90");
        Check.days(x, 3);
        x.put(2, 0);
        due("needs 2, has waited 3", x.letter(2, 1) * 10 + x.letter(2, 4), 23);
        due("day()", x.day(), 1);
        due("letter 2", x.letter(2, 3), 2);
        due("it waited 4", x.letter(2, 4), 4);
    }

    private static void theHole4Below() {
        CHECK.sentence("10: that is in the HOLE 4 below");
        for (int h = 4; h < 12; h++) {
            char c = HOLES.charAt(h);
            PigeonMail x = Check.behind("M9L" + c + "11L" + c + "90", 1);
            due("from " + h, x.letter(1, 0), h - 4);
            due("the cuckoo stays", x.letter(0, 0), h);
            PigeonMail y = Check.behind("M9L" + c + "90L" + c + "11", 1);
            due("from " + h + ", the other number", y.letter(0, 0), h - 4);
        }
    }

    private static void inTheLowestRowItStays() {
        CHECK.sentence("10: in the lowest ROW it stays");
        for (int h = 0; h < 4; h++) {
            char c = HOLES.charAt(h);
            PigeonMail x = Check.behind("M9L" + c + "11L" + c + "90", 1);
            due("hole(" + h + ")", x.hole(h), 3);
            due("letter(1, 0)", x.letter(1, 0), h);
            due("letter(1, 3)", x.letter(1, 3), 0);
        }
    }

    private static void roomSetAside() {
        CHECK.sentence("10: room set aside");
        due("three are there", Check.behind("M9Li11Li90Le90Le90", 1).hole(4), 14);
        due("two birds and it", Check.behind("M9Le10Le10Li11Li90", 1).hole(4), 1 + 2 + 8);
        due("four are there", Check.behind("M9Li11Li90Le11Le93La90La93", 1).hole(0), 2 + 8 + 16 + 32);
    }

    private static void eachOtherThatLies() {
        CHECK.sentence("10: each other LETTER that LIES in its HOLE");
        // Letter 0 puts letter 1 to letters 2 and 3; then letter 2 puts out both others.
        PigeonMail x = Check.behind("M9Li11Li90Le11Le90", 1);
        due("letter 1, put out twice", x.letter(1, 0), 0);
        due("letter 3", x.letter(3, 0), 0);
        due("letter 2", x.letter(2, 0), 4);
        CHECK.sentence("10: only what LIES is put out");
        due("a bird", Check.behind("M9Li10Li11", 1).letter(0, 0), 8);
        due("an answered one", Check.behind("M9Li21Li10C21", 2).letter(1, 0), 8);
        due("a flown one", Check.behind("M0Li10Li21", 2).letter(0, 0), 8);
        CHECK.sentence("10: only in its HOLE");
        PigeonMail y = Check.behind("M9Lj11Li90Lk90Lf90", 1);
        due("holes beside it", y.letter(1, 0) * 100 + y.letter(2, 0) * 10 + y.letter(3, 0), 905);
    }

    private static void onlyUrgentOnesPutOut() {
        CHECK.sentence("10: an URGENT one puts out");
        for (int k = 0; k <= 3; k++) {
            PigeonMail x = Check.behind("M9Ll1" + k + "Ll90", 2);
            due("it is hatched", x.letter(0, 3), 2);
            due("kind " + k, x.letter(1, 0), k == 1 ? 7 : 11);
        }
        due("an answered one does not", Check.behind("M9Ll11Ll90C21", 1).letter(1, 0), 11);
        due("one that lies yet does not", Check.behind("M9Ll21Ll90", 1).letter(1, 0), 11);
        PigeonMail flies = Check.behind("M0Ll11Ll90", 1);
        due("one that flies at once does", flies.letter(1, 0), 7);
        PigeonMail once = Check.behind("M9Ll11Ll90", 1);
        once.put(1, 11);
        once.day();
        due("as it hatches, not later", once.letter(1, 0), 11);
    }

    private static void asItHatchesByNumber() {
        CHECK.sentence("10: by number, as it does");
        // Both hatch on this day: which one is less decides where.
        PigeonMail x = Check.behind("M9Lk11Lk11", 1);
        due("letter 1 is put out, then hatches", x.letter(0, 0) * 100 + x.letter(1, 0), 1006);
        due("both are hatched", x.about(6), 3);
        due("they are no pair", x.about(8), 0);
        PigeonMail y = Check.behind("M9Lk10Lk11", 1);
        due("letter 0 was hatched first", y.letter(0, 0), 10);
        due("they are a pair", y.about(8), 1 << 10);
        PigeonMail z = Check.behind("M9Lg11Lg90Lk11Lk90", 1);
        due("letter 1 goes below, letter 3 to where it was", z.letter(1, 0) * 10 + z.letter(3, 0), 26);
    }

    // ---- promise 10 (c)

    private static void birdsEatByNumber() {
        CHECK.sentence("10: HATCHED birds by number each eat 1 GRAIN");
        for (int g = 0; g <= 9; g++) {
            PigeonMail x = Check.behind("M" + g + "La10Lb10Lc10Ld10Le10Lf10", 1);
            due("grain of " + g, x.about(3), Math.max(0, g - 6));
            due("hatched of " + g, x.about(6), (1 << Math.min(6, g)) - 1);
            due("flown of " + g, x.about(7), 63 - x.about(6));
        }
        PigeonMail x = Check.behind("M3La30Lb10Lc90C21", 3);
        due("grain eaten by letter 1 on three days", x.about(3), 0);
        due("letter 0 hatches later, and eats first", x.about(6), 1);
        due("letter 1 flies", x.about(7), 2);
    }

    private static void whereThereIsNoneItIsFlown() {
        CHECK.sentence("10: where there is none, it is FLOWN");
        PigeonMail x = Check.behind("M1La10", 1);
        due("the last grain", x.about(3), 0);
        due("it is there", x.about(6), 1);
        x.day();
        due("it is flown", x.about(7), 1);
        due("grain", x.about(3), 0);
        x.feed(9);
        due("a flown one stays flown", x.day() + x.about(7), 1);
        due("and eats nothing", x.about(3), 9);
        PigeonMail y = Check.behind("M9La90C01", 1);
        due("an answered one eats nothing", y.about(3), 9);
        due("what lies eats nothing", Check.behind("M9La90", 8).about(3), 9);
    }

    private static void theDayIsOneMore() {
        CHECK.sentence("10: THE DAY is one more");
        PigeonMail x = Check.roomOf("M0");
        for (int d = 1; d <= 200; d++) {
            due("day()", x.day(), 0);
            due("about(2)", x.about(2), d);
        }
    }

    private static void howManyHatchedInIt() {
        CHECK.sentence("10: how many HATCHED in it");
        PigeonMail none = new PigeonMail();
        due("no room", none.day(), 0);
        due("clerks alone", Check.roomOf("M0C01C12C23").day(), 0);
        due("all six", Check.roomOf("M9La10Lb10Lc10Ld10Le10Lf10").day(), 6);
        due("all six, though all fly", Check.roomOf("M0La10Lb10Lc10Ld10Le10Lf10").day(), 6);
        due("not those answered", Check.roomOf("M9La10Lb10Lc10Ld10Le10Lf10C03").day(), 3);
        PigeonMail x = Check.roomOf("M9La10Lb20Lc30");
        for (int d = 1; d <= 3; d++) {
            due("not those of days ahead", x.day(), 1);
        }
        due("none is left", x.day(), 0);
    }

    // ---- promise 11

    private static void putAnyLetterInAnyHole() {
        CHECK.sentence("11: PUT: the HOLE where it was; UNKNOWN: letter, hole");
        String six = "La90Lb90Lc90Ld90Le90Lf90";
        for (int letters = 1; letters <= 6; letters++) {
            for (int h = 0; h < 12; h++) {
                int last = letters - 1;
                PigeonMail x = Check.roomOf("M0" + six.substring(0, 4 * letters));
                due("put(" + last + ", " + h + ")", x.put(last, h), h == last ? LATE : last);
                due("letter(" + last + ", 0)", x.letter(last, 0), h);
                due("put(" + letters + ", " + h + ")", x.put(letters, h), UNKNOWN);
                due("put(-1, " + h + ")", x.put(-1, h), UNKNOWN);
                due("put(least, " + h + ")", x.put(Integer.MIN_VALUE, h), UNKNOWN);
                due("put(greatest, " + h + ")", x.put(Integer.MAX_VALUE, h), UNKNOWN);
            }
            PigeonMail y = Check.roomOf("M0" + six.substring(0, 4 * letters));
            for (int h : Check.outside(0, 11)) {
                due("put(0, " + h + ")", y.put(0, h), UNKNOWN);
            }
            due("about(9)", y.about(9), 0);
        }
    }

    private static void putOnlyWhatLies() {
        CHECK.sentence("11: LATE: it does not LIE");
        PigeonMail x = Check.behind("M1La10Lb10Le10Li90C11", 1);
        due("put of a bird", x.put(0, 5), LATE);
        due("put of a flown one", x.put(1, 5), LATE);
        due("put of an answered one", x.put(2, 5), LATE);
        due("put of one that lies", x.put(3, 5), 8);
        x.undo();
        x.undo();
        due("put, the day being undone", x.put(0, 5), 0);
    }

    private static void putIsInAnotherHole() {
        CHECK.sentence("11: LATE: it is there");
        for (int h = 0; h < 12; h++) {
            char c = HOLES.charAt(h);
            due("alone in " + h, Check.roomOf("M0L" + c + "90").put(0, h), LATE);
            due("with another in " + h, Check.roomOf("M0L" + c + "90L" + c + "90").put(1, h), LATE);
            PigeonMail x = Check.roomOf("M0L" + c + "90");
            due("away", x.put(0, (h + 1) % 12), h);
            due("back", x.put(0, h), (h + 1) % 12);
        }
    }

    private static void putWhereFewerThanTwoAre() {
        CHECK.sentence("11: where fewer than two LETTERS LIE or birds are HATCHED; LATE: two are");
        due("none is there", Check.roomOf("M0La90").put(0, 1), 0);
        due("one lies there", Check.roomOf("M0La90Lb90").put(0, 1), 0);
        due("two lie there", Check.roomOf("M0La90Lb90Lb90").put(0, 1), LATE);
        due("one bird is there", Check.behind("M9La90Lb10", 1).put(0, 1), 0);
        due("a bird and a letter are there", Check.behind("M9La90Lb10Lb90", 1).put(0, 1), LATE);
        due("two birds are there", Check.behind("M9La90Lb10Lb10", 1).put(0, 1), LATE);
        due("two flown were there", Check.behind("M0La90Lb10Lb10", 1).put(0, 1), 0);
        due("a bird is there, one flown was", Check.behind("M1La90Lb10Lb10", 1).put(0, 1), 0);
        due("two answered were there", Check.behind("M9Li90Lb10Lb10C02", 1).put(0, 1), 8);
        due("one lies there, one answered was", Check.behind("M9Li90Lb10Lb10C01", 1).put(0, 1), 8);
        PigeonMail three = Check.behind("M9Li11Li90Le90Le90Ll90", 1);
        due("three lie there", three.put(4, 4), LATE);
        due("out of the three", three.put(1, 0), 4);
        due("two lie there yet", three.put(4, 4), LATE);
        due("out of the two", three.put(2, 0), 4);
        due("one lies there", three.put(4, 4), 11);
    }

    // ---- promise 12

    private static void fed1To9() {
        CHECK.sentence("12: FED: GRAIN; BAD: n (1 .. 9)");
        for (int g = 0; g <= 9; g++) {
            for (int n = 1; n <= 9; n++) {
                PigeonMail x = Check.roomOf("M" + g);
                due("feed(" + n + ") of " + g, x.feed(n), g + n);
                due("about(3)", x.about(3), g + n);
            }
        }
        PigeonMail x = new PigeonMail();
        for (int n : Check.outside(1, 9)) {
            due("feed(" + n + ")", x.feed(n), BAD);
        }
        due("about(3)", x.about(3), 0);
        due("about(9)", x.about(9), 0);
        due("feed(9) with no room", x.feed(9), 9);
    }

    private static void ninetyNineGrainAtMost() {
        CHECK.sentence("12: 99 at most");
        for (int more = 0; more <= 9; more++) {
            for (int n = 1; n <= 9; n++) {
                PigeonMail x = Check.roomOf("M9");
                for (int i = 0; i < 9; i++) {
                    x.feed(9);
                }
                due("90", x.about(3), 90);
                if (more > 0) {
                    due("feed(" + more + ") of 90", x.feed(more), 90 + more);
                }
                int acts = x.about(9);
                due("feed(" + n + ") of " + (90 + more), x.feed(n), Math.min(99, 90 + more + n));
                due("an act, too", x.about(9), acts + 1);
                due("undo()", x.undo(), acts);
                due("about(3) undone", x.about(3), 90 + more);
            }
        }
    }

    // ---- promise 13

    private static void sentToAnotherRow() {
        CHECK.sentence("13: SENT: the ROW where it was; UNKNOWN: clerk, row; LATE: it is there");
        for (int clerks = 1; clerks <= 3; clerks++) {
            for (int from = 0; from < 3; from++) {
                String one = "C" + from + "1";
                PigeonMail x = Check.roomOf("M0" + one.repeat(clerks));
                int last = clerks - 1;
                for (int to = 0; to < 3; to++) {
                    int row = x.clerk(last, 0);
                    due("send(" + last + ", " + to + ")", x.send(last, to), row == to ? LATE : row);
                    due("clerk(" + last + ", 0)", x.clerk(last, 0), to);
                }
                int acts = x.about(9);
                for (int row : Check.outside(0, 2)) {
                    due("send(0, " + row + ")", x.send(0, row), UNKNOWN);
                }
                for (int c : Check.outside(0, last)) {
                    due("send(" + c + ", 0)", x.send(c, 0), UNKNOWN);
                    due("send(" + c + ", 2)", x.send(c, 2), UNKNOWN);
                }
                due("about(9)", x.about(9), acts);
            }
        }
    }

    // ---- promise 14

    private static void fourteenActsAtMost() {
        CHECK.sentence("14: ACTS are a row (14 at most); LATE: there is none");
        for (int acts = 0; acts <= 30; acts++) {
            PigeonMail x = Check.roomOf("M0");
            for (int i = 0; i < acts; i++) {
                x.feed(1);
            }
            int held = Math.min(14, acts);
            due("about(9) behind " + acts, x.about(9), held);
            for (int left = held - 1; left >= 0; left--) {
                due("undo() behind " + acts, x.undo(), left);
                due("about(3) behind " + acts, x.about(3), acts - held + left);
            }
            due("undo() of none behind " + acts, x.undo(), LATE);
            due("about(3) of none behind " + acts, x.about(3), acts - held);
            due("about(9) of none behind " + acts, x.about(9), 0);
        }
    }

    private static void theFirstOneIsForgotten() {
        CHECK.sentence("14: when it is full, the first one is forgotten");
        PigeonMail x = Check.roomOf("M0La90C01");
        x.put(0, 7);
        x.send(0, 2);
        for (int i = 0; i < 12; i++) {
            x.feed(1);
        }
        due("14 are held", x.about(9), 14);
        x.undo();
        x.feed(2);
        due("none is forgotten when one was undone", x.about(9), 14);
        x.day();
        due("14 are held", x.about(9), 14);
        while (x.about(9) > 0) {
            x.undo();
        }
        due("the put is forgotten", x.letter(0, 0), 7);
        due("what came behind it is not", x.clerk(0, 0), 0);
        due("grain", x.about(3), 0);
        due("the day", x.about(2), 0);
        due("undo()", x.undo(), LATE);
    }

    private static void onlyTheseAreActs() {
        CHECK.sentence("14: ACTS (DAYS, PUT, FED, SENT)");
        PigeonMail x = Check.roomOf("M1La90C21");
        Twins.Call[] acts = {PigeonMail::day, y -> y.put(0, 3), y -> y.feed(1), y -> y.send(0, 1)};
        for (int i = 0; i < acts.length; i++) {
            acts[i].on(x);
            due("act " + i, x.about(9), i + 1);
        }
        Twins.Call[] none = {y -> y.tell(1, 1), PigeonMail::untell, y -> y.seed(4), y -> y.years(30), y -> y.keep(0),
            y -> y.write('C'), PigeonMail::wipe, y -> y.put(0, 3), y -> y.feed(0), y -> y.send(0, 1),
            PigeonMail::room, y -> y.ahead(20, 1), y -> y.judge(1, 2009L)};
        for (int i = 0; i < none.length; i++) {
            none[i].on(x);
            due("no act " + i, x.about(9), acts.length);
        }
        CHECK.sentence("14: undone is what acts changed alone");
        x.tell(5, 1);
        x.write('M');
        x.seed(99);
        while (x.about(9) > 0) {
            x.undo();
        }
        due("told", x.about(10), 1);
        due("bytes", x.about(11), 1);
        due("the seed", x.seed(0), 99);
        due("kept", x.again(0), 1);
    }

    private static void eachActIsUndone() {
        CHECK.sentence("14: the last one can be undone: how many are left");
        PigeonMail x = Check.roomOf("M2La10Lb10Le10Li11Li90C11C21");
        x.send(1, 0);
        x.send(1, 1);
        x.put(4, 11);
        x.put(4, 8);
        x.feed(9);
        for (int i = 0; i < 3; i++) {
            x.day();
        }
        due("letter 4 was put out, and answered", x.letter(4, 3) * 10 + x.letter(4, 0), 14);
        due("undo() of day 3", x.undo(), 7);
        due("undo() of day 2", x.undo(), 6);
        due("letter 4 lies", x.letter(4, 3) * 10 + x.letter(4, 0), 4);
        due("grain", x.about(3), 8);
        due("the day", x.about(2), 1);
        due("undo() of day 1", x.undo(), 5);
        due("letter 4 is where it was", x.letter(4, 0), 8);
        due("none waited", x.letter(4, 4) + x.letter(0, 4), 0);
        due("all lie", x.about(4), 31);
        due("grain", x.about(3), 11);
        due("undo() of the feeding", x.undo(), 4);
        due("grain", x.about(3), 2);
        due("undo() of the put back", x.undo(), 3);
        due("letter 4", x.letter(4, 0), 11);
        due("undo() of the put", x.undo(), 2);
        due("letter 4", x.letter(4, 0), 8);
        due("undo() of the sending back", x.undo(), 1);
        due("clerk 1", x.clerk(1, 0), 0);
        due("undo() of the sending", x.undo(), 0);
        due("clerk 1", x.clerk(1, 0), 2);
        due("undo() of none", x.undo(), LATE);
        due("to wait yet", x.letter(0, 5), 1);
    }
}
