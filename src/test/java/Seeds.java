/** What comes of a seed, time by time: 0 .. 23. */
final class Seeds {
    static final long FACTOR = 6364136223846793005L, STEP = 1442695040888963407L;
    /** In the place of a number: any of 16 .. 23, which are a day. */
    static final int DAY = 99;

    private Seeds() {
    }

    static long next(long seed) {
        return seed * FACTOR + STEP;
    }

    static int comesOf(long next) {
        return (int) ((next >>> 33) % 24);
    }

    /** The least seed, from 0 on, by which just these come, one after the other. */
    static long forComing(int... comes) {
        for (long v = 0;; v++) {
            long x = v;
            boolean fits = true;
            for (int i = 0; i < comes.length && fits; i++) {
                x = next(x);
                int what = comesOf(x);
                fits = comes[i] == DAY ? what >= 16 : what == comes[i];
            }
            if (fits) {
                return v;
            }
        }
    }
}
