import java.util.Set;
import java.util.TreeSet;

/** Counts and prints the calls whose answer is not the one that is due. */
final class Check {
    private final String name;
    private String sentence = "";
    private int wrong;
    private int looked;

    Check(String name) {
        this.name = name;
    }

    /** The promise's number and its sentence that what follows looks at. */
    void sentence(String promiseAndSentence) {
        sentence = promiseAndSentence + ": ";
    }

    void due(String call, long got, long want) {
        looked++;
        if (got != want) {
            wrong++;
            if (wrong <= 50) {
                System.out.println(name + ": " + sentence + call + " answered " + got + ", due is " + want);
            }
        }
    }

    void fail(String what) {
        looked++;
        wrong++;
        System.out.println(name + ": " + sentence + what);
    }

    int wrong() {
        return wrong;
    }

    void end() {
        System.out.println(name + ": " + looked + " looked at, " + wrong + " wrong");
        if (wrong != 0) {
            System.exit(1);
        }
    }

    /**
     * Numbers outside of least .. most: the nearest on either side, the least and the greatest int, and those that a
     * cast to fewer bits, a sign lost or a product that wraps would take for one inside.
     */
    static int[] outside(int least, int most) {
        int[] far = {Integer.MIN_VALUE, Integer.MIN_VALUE + 1, Integer.MAX_VALUE, Integer.MAX_VALUE - 1, -most, -1, -2,
            1 << 8, 1 << 16, 1 << 24, 1 << 29, 1 << 30, -(1 << 8), -(1 << 16), Integer.MIN_VALUE + most};
        Set<Integer> all = new TreeSet<>();
        all.add(least - 1);
        all.add(most + 1);
        for (int f : far) {
            all.add(f);
            all.add(f + least);
        }
        all.removeIf(v -> v >= least && v <= most);
        return all.stream().mapToInt(v -> v).toArray();
    }

    static void write(PigeonMail x, String text) {
        x.wipe();
        for (int i = 0; i < text.length(); i++) {
            x.write(text.charAt(i));
        }
    }

    /** A new object whose room is the text. */
    static PigeonMail roomOf(String text) {
        PigeonMail x = new PigeonMail();
        write(x, text);
        if (x.room() < 0) {
            throw new IllegalStateException("no room: " + text);
        }
        return x;
    }

    /** A new object whose room is the text, so many days later. */
    static PigeonMail behind(String text, int days) {
        PigeonMail x = roomOf(text);
        days(x, days);
        return x;
    }

    static void days(PigeonMail x, int n) {
        for (int i = 0; i < n; i++) {
            x.day();
        }
    }
}
