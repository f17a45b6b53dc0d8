import java.util.Random;
import java.util.Set;
import java.util.TreeSet;

/**
 * Runs of calls by chance on an object and on the model, whose answers are to be the same; and wild arguments.
 * Each run is of just the 512 calls for which an object is used, and each of its answers is compared.
 */
public final class ModelTest {
    private static final Check CHECK = new Check("ModelTest");
    private static final int RUNS = 3000, CALLS = 512, CALLS_OF_THE_FACE = 29;

    private final Random random;
    private final PigeonMail x = new PigeonMail();
    private final Model y = new Model();
    private final Set<String> called = new TreeSet<>();
    private final boolean wild;
    private final int run;
    private int calls;

    private ModelTest(int run, boolean wild) {
        this.run = run;
        this.random = new Random(run);
        this.wild = wild;
    }

    public static void main(String[] args) {
        int whole = 0;
        for (int run = 0; run < RUNS && CHECK.wrong() < 20; run++) {
            ModelTest test = new ModelTest(run, run % 5 == 0);
            test.go();
            CHECK.due("calls of run " + run, test.calls, CALLS);
            whole += test.called.size() == CALLS_OF_THE_FACE ? 1 : 0;
        }
        CHECK.due("runs in which each call of the face is made, a hundred at least", Math.min(100, whole), 100);
        CHECK.end();
    }

    private void go() {
        if (run % 7 != 0) {
            roomOf(goodText());
        }
        while (calls < CALLS) {
            call();
        }
    }

    private void due(String call, long got, long want) {
        calls++;
        called.add(call.substring(0, call.indexOf('(')));
        CHECK.due("run " + run + ", call " + calls + ": " + call, got, want);
    }

    private int some(int below) {
        if (wild && random.nextInt(6) == 0) {
            int[] odd = {-1, below, below + 1, Integer.MIN_VALUE, Integer.MAX_VALUE, 1 << 30, -below, 64, 32};
            return odd[random.nextInt(odd.length)];
        }
        return random.nextInt(40) == 0 ? random.nextInt(below + 4) - 2 : random.nextInt(below);
    }

    /** Makes the text the room, if the run has as many calls left. */
    private void roomOf(String text) {
        if (calls + text.length() + 3 > CALLS) {
            return;
        }
        due("wipe()", x.wipe(), y.wipe());
        for (int i = 0; i < text.length(); i++) {
            due("write(" + (int) text.charAt(i) + ")", x.write(text.charAt(i)), y.write(text.charAt(i)));
        }
        due("fault() of " + text, x.fault(), y.fault());
        due("room()", x.room(), y.room());
    }

    /** A room that is full of things, in few holes, so that much happens. */
    private String goodText() {
        StringBuilder s = new StringBuilder("M").append(random.nextInt(10));
        int[] in = new int[12];
        int letters = random.nextInt(8) == 0 ? random.nextInt(7) : 4 + random.nextInt(3);
        int clerks = random.nextInt(4);
        int crowd = 1 + random.nextInt(3);
        while (letters + clerks > 0) {
            if (random.nextInt(letters + clerks) < letters) {
                int h = random.nextInt(3) * 4 + random.nextInt(crowd);
                if (in[h] < 2) {
                    in[h]++;
                    int wait = random.nextInt(3) == 0 ? 1 + random.nextInt(9) : 1 + random.nextInt(4);
                    s.append('L').append((char) ('a' + h)).append(wait).append(random.nextInt(4));
                    letters--;
                }
            } else {
                s.append('C').append(random.nextInt(3)).append(1 + random.nextInt(random.nextBoolean() ? 1 : 3));
                clerks--;
            }
        }
        return s.toString();
    }

    private String spoilt() {
        StringBuilder s = new StringBuilder(goodText());
        int at = random.nextInt(s.length());
        switch (random.nextInt(4)) {
            case 0: s.setLength(at); break;
            case 1: s.setCharAt(at, (char) random.nextInt(256)); break;
            case 2: s.insert(at, "MLCa0l39d4".charAt(random.nextInt(10))); break;
            default: s.append("LCM0".charAt(random.nextInt(4))).append("a01".charAt(random.nextInt(3))); break;
        }
        return s.toString();
    }

    private void call() {
        int pick = random.nextInt(100);
        if (pick < 34) {
            act(pick);
        } else if (pick < 60) {
            look(pick);
        } else {
            foresee(pick);
        }
    }

    private void act(int pick) {
        if (pick < 10) {
            due("day()", x.day(), y.day());
        } else if (pick < 17) {
            int l = some(6);
            int h = some(12);
            due("put(" + l + ", " + h + ")", x.put(l, h), y.put(l, h));
        } else if (pick < 20) {
            int n = some(10);
            due("feed(" + n + ")", x.feed(n), y.feed(n));
        } else if (pick < 24) {
            int c = some(3);
            int r = some(3);
            due("send(" + c + ", " + r + ")", x.send(c, r), y.send(c, r));
        } else if (pick < 29) {
            due("undo()", x.undo(), y.undo());
        } else if (pick < 31) {
            int s = some(2);
            due("keep(" + s + ")", x.keep(s), y.keep(s));
        } else if (pick < 33) {
            int s = some(2);
            due("again(" + s + ")", x.again(s), y.again(s));
        } else if (random.nextInt(4) == 0) {
            roomOf(random.nextBoolean() ? goodText() : spoilt());
        } else if (random.nextInt(4) == 0) {
            due("room()", x.room(), y.room());
        } else {
            int b = some(256);
            due("write(" + b + ")", x.write(b), y.write(b));
        }
    }

    private void look(int pick) {
        if (pick < 44) {
            int what = some(12);
            due("about(" + what + ")", x.about(what), y.about(what));
        } else if (pick < 52) {
            int l = some(6);
            int what = some(6);
            due("letter(" + l + ", " + what + ")", x.letter(l, what), y.letter(l, what));
        } else if (pick < 54) {
            int c = some(3);
            int what = some(2);
            due("clerk(" + c + ", " + what + ")", x.clerk(c, what), y.clerk(c, what));
        } else if (pick < 57) {
            int h = some(12);
            due("hole(" + h + ")", x.hole(h), y.hole(h));
        } else {
            told();
        }
    }

    private void told() {
        switch (random.nextInt(7)) {
            case 0:
                due("untell()", x.untell(), y.untell());
                break;
            case 1:
            case 2:
                int n = some(10);
                int hatched = n > 4 == random.nextBoolean() ? some(2) : n > 4 ? 1 : 0;
                due("tell(" + n + ", " + hatched + ")", x.tell(n, hatched), y.tell(n, hatched));
                break;
            default:
                int what = some(2);
                due("may(" + what + ")", x.may(what), y.may(what));
        }
    }

    private void foresee(int pick) {
        boolean flag = random.nextBoolean();
        int l = some(6);
        if (pick < 66) {
            int n = some(21);
            int what = some(4);
            due("ahead(" + n + ", " + what + ")", x.ahead(n, what), y.ahead(n, what));
        } else if (pick < 71) {
            due("hatches(" + l + ")", x.hatches(l), y.hatches(l));
        } else if (pick < 74) {
            due("rows(" + flag + ")", x.rows(flag), y.rows(flag));
        } else if (pick < 78) {
            due("saved(" + l + ")", x.saved(l), y.saved(l));
        } else if (pick < 81) {
            due("quiet()", x.quiet(), y.quiet());
        } else if (pick < 87) {
            int n = some(5);
            long row = doings();
            due("judge(" + n + ", " + row + ")", x.judge(n, row), y.judge(n, row));
        } else if (pick < 90) {
            int c = some(3);
            due("share(" + c + ", " + flag + ")", x.share(c, flag), y.share(c, flag));
        } else if (pick < 93) {
            int one = some(3);
            int other = some(3);
            int what = some(2);
            String call = "rests(" + one + ", " + other + ", " + what + ")";
            due(call, x.rests(one, other, what), y.rests(one, other, what));
        } else if (pick < 96) {
            int m = some(7);
            int t = some(11);
            due("hawks(" + m + ", " + t + ", " + flag + ")", x.hawks(m, t, flag), y.hawks(m, t, flag));
        } else if (pick < 99) {
            int m = some(31);
            due("years(" + m + ")", x.years(m), y.years(m));
        } else {
            long v = random.nextInt(3) == 0 ? random.nextInt(10) : random.nextLong();
            due("seed(" + v + ")", x.seed(v), y.seed(v));
        }
    }

    private long doings() {
        if (random.nextInt(20) == 0) {
            return random.nextLong();
        }
        long row = 0;
        for (int i = random.nextInt(4); i >= 0; i--) {
            row = row * 10000 + doing();
        }
        return row;
    }

    private int doing() {
        switch (random.nextInt(9)) {
            case 0:
            case 1: return 0;
            case 2:
            case 3: return 1000 + random.nextInt(6) * 100 + random.nextInt(13);
            case 4: return 2000 + random.nextInt(10);
            case 5: return 3000 + random.nextInt(3) * 100 + random.nextInt(3);
            case 6:
            case 7: return 4000 + random.nextInt(6) * 100 + random.nextInt(4);
            default: return random.nextInt(10000);
        }
    }
}
