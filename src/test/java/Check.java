/** Counts and prints the calls whose answer is not the one that is due. */
final class Check {
    private final String name;
    private int wrong;
    private int looked;

    Check(String name) {
        this.name = name;
    }

    void due(String call, long got, long want) {
        looked++;
        if (got != want) {
            wrong++;
            if (wrong <= 50) {
                System.out.println(name + ": " + call + " answered " + got + ", due is " + want);
            }
        }
    }

    void fail(String what) {
        looked++;
        wrong++;
        System.out.println(name + ": " + what);
    }

    int wrong() {
        return wrong;
    }

    void end() {
        System.out.println(name + ": " + looked + " looked at, " + wrong + " wrong");
        if (wrong != 0) {
            System.exit(1);
        }
    }

    static void write(PigeonMail x, String text) {
        x.wipe();
        for (int i = 0; i < text.length(); i++) {
            x.write(text.charAt(i));
        }
    }

    /** A new object whose room is the text. */
    static PigeonMail roomOf(String text) {
        PigeonMail x = new PigeonMail();
        write(x, text);
        if (x.room() < 0) {
            throw new IllegalStateException("no room: " + text);
        }
        return x;
    }

    static void days(PigeonMail x, int n) {
        for (int i = 0; i < n; i++) {
            x.day();
        }
    }
}
