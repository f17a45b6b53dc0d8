import java.math.BigInteger;
import java.util.ArrayDeque;
import java.util.ArrayList;
import java.util.Deque;
import java.util.List;

/**
 * An object is used for 512 calls: runs of just so many on one object. In eight of them each answer is compared with
 * one that is reckoned here by itself; one asks the same again and again, and one compares an object behind long use
 * with a new one. ModelTest has such runs of all calls mixed.
 */
public final class FullRunTest {
    private static final Check CHECK = new Check("FullRunTest");
    private static final int CALLS = 512;
    private static final int LATE = PigeonMail.LATE, FULL = PigeonMail.FULL;

    private PigeonMail x = new PigeonMail();
    private int calls;

    public static void main(String[] args) {
        new FullRunTest().texts();
        new FullRunTest().days();
        new FullRunTest().hatchesInEachRoomMadeAnew();
        new FullRunTest().actsAndUndone();
        new FullRunTest().putAndSent();
        new FullRunTest().toldAndUntold();
        new FullRunTest().seeds();
        new FullRunTest().slots();
        new FullRunTest().asked();
        new FullRunTest().oldAsNew();
        CHECK.end();
    }

    private boolean goesOn() {
        return calls < CALLS;
    }

    private void due(String call, long got, long want) {
        calls++;
        CHECK.due("call " + calls + ", " + call, got, want);
    }

    private void end() {
        CHECK.due("calls on one object", calls, CALLS);
    }

    private void roomOf(String text, int want) {
        for (int i = 0; i < text.length(); i++) {
            due("write", x.write(text.charAt(i)), i + 1);
        }
        due("room()", x.room(), want);
    }

    private void texts() {
        CHECK.sentence("512 calls of 2, 3: bytes, till there are 48, and wiped");
        while (goesOn()) {
            int at = calls % 50;
            if (at < 48) {
                due("write(" + calls % 256 + ")", x.write(calls % 256), at + 1);
            } else if (at == 48) {
                due("write", x.write(0), FULL);
            } else {
                due("wipe()", x.wipe(), 48);
            }
        }
        end();
    }

    private void days() {
        CHECK.sentence("512 calls of 10: THE DAY goes on, and nothing HATCHES twice");
        roomOf("M9Ll90Ll93C01", 21);
        for (int d = 1; calls < CALLS - 3; d++) {
            // The petition waits for the plain one, which hatches ahead of it on day 9.
            due("day()", x.day(), d == 9 ? 2 : 0);
        }
        int days = CALLS - 3 - 14;
        due("about(2)", x.about(2), days);
        due("about(7)", x.about(7), 3);
        due("about(9)", x.about(9), 14);
        end();
    }

    private void hatchesInEachRoomMadeAnew() {
        CHECK.sentence("512 calls of 5, 10: THE ROOM is made anew again and again");
        roomOf("M1La10Lb20", 20);
        while (goesOn()) {
            int at = (calls - 11) % 7;
            switch (at) {
                case 0: due("day()", x.day(), 1); break;
                case 1: due("about(3)", x.about(3), 0); break;
                case 2: due("day()", x.day(), 1); break;
                case 3: due("about(7)", x.about(7), 3); break;
                case 4: due("room()", x.room(), 20); break;
                case 5: due("about(4)", x.about(4), 3); break;
                default: due("about(9)", x.about(9), 0); break;
            }
        }
        end();
    }

    private void actsAndUndone() {
        CHECK.sentence("512 calls of 12, 14: the row of 14 ACTS goes round and round");
        Deque<Integer> acts = new ArrayDeque<>();
        int grain = 0;
        while (goesOn()) {
            // Now more is fed than undone, now more is undone than fed.
            boolean feeds = calls / 40 % 2 == 0 ? calls % 5 != 4 : calls % 5 == 4;
            if (feeds) {
                acts.addLast(grain);
                if (acts.size() > 14) {
                    acts.removeFirst();
                }
                int n = calls % 9 + 1;
                grain = Math.min(99, grain + n);
                due("feed(" + n + ")", x.feed(n), grain);
            } else if (acts.isEmpty()) {
                due("undo()", x.undo(), LATE);
            } else {
                grain = acts.removeLast();
                due("undo()", x.undo(), acts.size());
            }
        }
        end();
    }

    private void putAndSent() {
        CHECK.sentence("512 calls of 7, 8, 11, 13: a LETTER goes from HOLE to HOLE, a CLERK from ROW to ROW");
        roomOf("M0Ll90C21", 11);
        int hole = 11;
        int row = 2;
        while (goesOn()) {
            int next = (hole + 5) % 12;
            switch ((calls - 10) % 4) {
                case 0:
                    due("put(0, " + next + ")", x.put(0, next), hole);
                    hole = next;
                    break;
                case 1:
                    due("letter(0, 0)", x.letter(0, 0), hole);
                    break;
                case 2:
                    due("send(0, " + (row + 1) % 3 + ")", x.send(0, (row + 1) % 3), row);
                    row = (row + 1) % 3;
                    break;
                default:
                    due("clerk(0, 0)", x.clerk(0, 0), row);
            }
        }
        end();
    }

    private void toldAndUntold() {
        CHECK.sentence("512 calls of 22, 23: told, till there are 6, and untold");
        while (goesOn()) {
            int at = calls % 8;
            if (at == 7) {
                due("untell()", x.untell(), 6);
            } else {
                due("tell", x.tell(calls % 10, calls % 2), at == 6 ? FULL : at + 1);
            }
        }
        end();
    }

    private void seeds() {
        CHECK.sentence("512 calls of 27, 28: THE SEED goes on, and nothing else changes");
        roomOf("M9La10", 10);
        for (int i = 0; i < 11; i++) {
            due("feed(9)", x.feed(9), Math.min(99, 9 + 9 * (i + 1)));
        }
        due("day()", x.day(), 1);
        long first = Long.MIN_VALUE + 12345;
        due("seed(" + first + ")", x.seed(first), 0);
        int times = 0;
        while (calls < CALLS - 1) {
            // The bird is there behind each time: it has grain for more days than can come.
            due("years(30)", x.years(30), 30);
            times += 30;
        }
        due("seed(0)", x.seed(0), seedBehind(first, times));
        end();
    }

    /** By the sum of a geometric row, not step by step: a to the n times x, and c (a to the n, less 1) by (a less 1). */
    private static long seedBehind(long first, int times) {
        BigInteger a = new BigInteger("6364136223846793005");
        BigInteger c = new BigInteger("1442695040888963407");
        BigInteger word = BigInteger.ONE.shiftLeft(64);
        BigInteger less1 = a.subtract(BigInteger.ONE);
        BigInteger n = BigInteger.valueOf(times);
        BigInteger power = a.modPow(n, less1.multiply(word));
        BigInteger steps = power.subtract(BigInteger.ONE).divide(less1);
        return power.multiply(BigInteger.valueOf(first)).add(c.multiply(steps)).longValue();
    }

    private void slots() {
        CHECK.sentence("512 calls of 29, 30: both SLOTS are kept and gone on from, in turn");
        roomOf("M0", 0);
        int day = 0;
        while (goesOn()) {
            switch ((calls - 3) % 7) {
                case 0: due("day()", x.day(), 0); break;
                case 1: due("keep(0)", x.keep(0), day + 1); break;
                case 2: due("day()", x.day(), 0); break;
                case 3: due("keep(1)", x.keep(1), day + 2); break;
                case 4: due("again(0)", x.again(0), day + 1); break;
                case 5: due("about(9)", x.about(9), 0); break;
                default:
                    due("again(1)", x.again(1), day + 2);
                    day += 2;
            }
        }
        end();
    }

    private void asked() {
        CHECK.sentence("512 calls that ask only answer the same each time");
        roomOf("M9Li21Li43Le13Le52La31La90C21C01C12", 63);
        List<Long> first = null;
        while (calls + Twins.ASKED < CALLS) {
            List<Long> all = Twins.asked(x);
            calls += all.size();
            first = first == null ? all : first;
            CHECK.due("as at first", all.equals(first) ? 1 : 0, 1);
            due("seed(0)", x.seed(0), 1);
        }
        while (goesOn()) {
            due("rows(true)", x.rows(true), first.get(first.size() - Twins.ROWS_FROM_LAST));
        }
        end();
    }

    private void oldAsNew() {
        CHECK.sentence("to the 512th call an object, its room made anew, is as a new one");
        String text = "M9Li21Li43Le13Le52La31La90C21C01C12";
        Twins.Call[] uses = {
            y -> y.write('M'), y -> y.write('0' + 5), y -> y.write('L'), y -> y.write('k'), y -> y.write('1'),
            y -> y.write('1'), y -> y.write('C'), y -> y.write('2'), y -> y.write('3'), PigeonMail::fault,
            PigeonMail::room, y -> y.keep(0), PigeonMail::day, y -> y.put(0, 3), y -> y.feed(7), y -> y.send(0, 0),
            y -> y.keep(1), y -> y.tell(3, 1), y -> y.years(30), PigeonMail::day, PigeonMail::undo,
            y -> y.ahead(20, 1), y -> y.hatches(0), y -> y.rows(true), y -> y.saved(0), PigeonMail::quiet,
            y -> y.judge(4, 1002_2009_0000_3001L), y -> y.share(0, true), y -> y.may(0), y -> y.rests(0, 0, 0),
            y -> y.hawks(1, 5, true), y -> y.seed(77), y -> y.again(0), PigeonMail::day, PigeonMail::wipe};
        int behind = 1 + text.length() + 1 + 1 + 1 + Twins.ASKED;
        while (calls < CALLS - behind) {
            uses[calls % uses.length].on(x);
            calls++;
        }
        x.wipe();
        calls++;
        roomOf(text, 63);
        x.untell();
        x.seed(0);
        calls += 2;
        List<Long> all = Twins.asked(x);
        calls += all.size();
        List<Long> ofNew = new ArrayList<>(Twins.asked(Check.roomOf(text)));
        for (int i = 0; i < ofNew.size(); i++) {
            CHECK.due("answer " + i + " of all that can be asked", all.get(i), ofNew.get(i));
        }
        end();
    }
}
