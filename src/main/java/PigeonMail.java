/**
 * The sorting room of a ministry: letters that are kept waiting in their holes hatch into birds.
 * What each call promises stands in DOC.md; the words LETTER, HOLE, CLERK and their like are its terms.
 */
public final class PigeonMail {
    public static final int UNKNOWN = -1, BAD = -2, LATE = -3, FULL = -4, NONE = -9;

    private static final int HOLES = 12, ROWS = 3, HOLES_IN_ROW = 4, HOLE_ROOM = 2;
    private static final int MOST_LETTERS = 6, MOST_CLERKS = 3, MOST_BYTES = 48;
    private static final int MOST_ACTS = 14, MOST_TOLD = 6, MOST_DOINGS = 4, SLOTS = 2;
    private static final int MOST_GRAIN = 99, MOST_MEAL = 9, MOST_WAIT = 9;
    private static final int SOON = 9, FAR = 20, REST_DAYS = 3, MOST_YEARS = 30;
    private static final int URGENT = 1, TELEGRAM = 2, PETITION = 3, KINDS = 4;
    private static final int LIES = 0, ANSWERED = 1, HATCHED = 2, FLOWN = 3, FATES = 4;

    private final Script script = new Script();
    private final Plan plan = new Plan();
    private final Hall now = new Hall(plan);
    private final Outlook outlook = new Outlook(plan, now);
    private final Past past = new Past();
    private final Shelf slots = new Shelf(SLOTS);
    private final boolean[] kept = new boolean[SLOTS];
    private final Told told = new Told();
    private final Chance chance = new Chance();
    private long theSeed;

    public PigeonMail() {
    }

    // ---- the room

    public int write(int letter) {
        if (letter < 0 || letter > 255) {
            return BAD;
        }
        return script.add(letter);
    }

    public int wipe() {
        return script.clear();
    }

    public int fault() {
        return script.firstFault();
    }

    public int room() {
        if (script.firstFault() != NONE) {
            return LATE;
        }
        script.readInto(plan);
        now.begin();
        past.clear();
        for (int s = 0; s < SLOTS; s++) {
            kept[s] = false;
        }
        return 10 * plan.letters + plan.clerks;
    }

    public int about(int what) {
        switch (what) {
            case 0: return plan.letters;
            case 1: return plan.clerks;
            case 2: return now.theDay();
            case 3: return now.grain();
            case 4: return now.who(LIES);
            case 5: return now.who(ANSWERED);
            case 6: return now.who(HATCHED);
            case 7: return now.who(FLOWN);
            case 8: return now.pairs();
            case 9: return past.count;
            case 10: return told.count;
            case 11: return script.length;
            default: return BAD;
        }
    }

    public int letter(int letter, int what) {
        if (!plan.hasLetter(letter)) {
            return UNKNOWN;
        }
        switch (what) {
            case 0: return now.holeOf(letter);
            case 1: return plan.waits[letter];
            case 2: return plan.kinds[letter];
            case 3: return now.fateOf(letter);
            case 4: return now.waitedOf(letter);
            case 5: return now.fateOf(letter) == LIES ? now.daysLeft(letter) : NONE;
            default: return BAD;
        }
    }

    public int clerk(int clerk, int what) {
        if (!plan.hasClerk(clerk)) {
            return UNKNOWN;
        }
        switch (what) {
            case 0: return now.rowOf(clerk);
            case 1: return plan.answers[clerk];
            default: return BAD;
        }
    }

    public int hole(int hole) {
        return isHole(hole) ? now.whoIsIn(hole) : UNKNOWN;
    }

    // ---- acts

    public int day() {
        past.remember(now);
        return now.passDay();
    }

    public int put(int letter, int hole) {
        if (!plan.hasLetter(letter) || !isHole(hole)) {
            return UNKNOWN;
        }
        if (!now.canPut(letter, hole)) {
            return LATE;
        }
        int was = now.holeOf(letter);
        past.remember(now);
        now.moveTo(letter, hole);
        return was;
    }

    public int feed(int n) {
        if (n < 1 || n > MOST_MEAL) {
            return BAD;
        }
        past.remember(now);
        now.addGrain(n);
        return now.grain();
    }

    public int send(int clerk, int row) {
        if (!plan.hasClerk(clerk) || !isRow(row)) {
            return UNKNOWN;
        }
        if (!now.canSend(clerk, row)) {
            return LATE;
        }
        int was = now.rowOf(clerk);
        past.remember(now);
        now.sendTo(clerk, row);
        return was;
    }

    public int undo() {
        if (past.count == 0) {
            return LATE;
        }
        past.goBack(now);
        return past.count;
    }

    // ---- days to come, rows

    public int ahead(int n, int what) {
        if (n < 0 || n > FAR || what < 0 || what >= FATES) {
            return BAD;
        }
        return outlook.whoIn(n, what);
    }

    public int hatches(int letter) {
        if (!plan.hasLetter(letter)) {
            return UNKNOWN;
        }
        int days = outlook.daysToHatch(letter, now.holeOf(letter));
        return days > FAR ? NONE : days;
    }

    public int rows(boolean way) {
        return outlook.bestRows(way);
    }

    public int saved(int letter) {
        if (!plan.hasLetter(letter)) {
            return UNKNOWN;
        }
        if (now.fateOf(letter) != LIES) {
            return LATE;
        }
        return outlook.safestHole(letter);
    }

    public int quiet() {
        return outlook.fewestForQuiet();
    }

    public int judge(int n, long row) {
        if (n < 1 || n > MOST_DOINGS || row < 0) {
            return BAD;
        }
        return outlook.firstThatCanNotBe(n, row);
    }

    public int share(int clerk, boolean upper) {
        if (!plan.hasClerk(clerk)) {
            return UNKNOWN;
        }
        return outlook.shareOf(clerk, upper);
    }

    // ---- told

    public int tell(int n, int hatched) {
        if (n < 0 || n > SOON || hatched < 0 || hatched > 1) {
            return BAD;
        }
        return told.add(n, hatched == 1);
    }

    public int untell() {
        return told.clear();
    }

    public int may(int what) {
        if (what < 0 || what > 1) {
            return BAD;
        }
        return what == 0 ? told.howMany() : told.first();
    }

    // ---- rests, chances

    public int rests(int one, int other, int what) {
        if (!plan.hasClerk(one) || !plan.hasClerk(other)) {
            return UNKNOWN;
        }
        if (one == other || what < 0 || what > 1) {
            return BAD;
        }
        return outlook.restsOf(one, other, what == 1);
    }

    public int hawks(int m, int x, boolean upper) {
        if (m < 0 || m > MOST_LETTERS || x < 0 || x > 10) {
            return BAD;
        }
        return chance.left(Integer.bitCount(now.who(HATCHED)), m, x, upper);
    }

    public long seed(long v) {
        long was = theSeed;
        theSeed = v;
        return was;
    }

    public int years(int m) {
        if (m < 1 || m > MOST_YEARS) {
            return BAD;
        }
        int sum = outlook.birdsOfYears(m, theSeed);
        theSeed = outlook.seedBehind;
        return sum;
    }

    // ---- slots

    public int keep(int slot) {
        if (slot < 0 || slot >= SLOTS) {
            return UNKNOWN;
        }
        slots.store(slot, now);
        kept[slot] = true;
        return now.theDay();
    }

    public int again(int slot) {
        if (slot < 0 || slot >= SLOTS) {
            return UNKNOWN;
        }
        if (!kept[slot]) {
            return LATE;
        }
        slots.fetch(slot, now);
        past.clear();
        return now.theDay();
    }

    private static boolean isHole(int hole) {
        return hole >= 0 && hole < HOLES;
    }

    private static boolean isRow(int row) {
        return row >= 0 && row < ROWS;
    }

    /** How long a letter waits that is alone in its hole. */
    private static int waitAlone(int wait, int kind) {
        return kind == TELEGRAM ? Math.max(1, wait / 2) : wait;
    }

    /** The upper or the lower part of a fraction in least terms; the lower one given is 1 or more. */
    private static int part(int upper, int lower, boolean wantUpper) {
        int a = Math.abs(upper);
        int b = lower;
        for (int i = 0; i < 64 && b != 0; i++) {
            int rest = a % b;
            a = b;
            b = rest;
        }
        if (a == 0) {
            return wantUpper ? upper : lower;
        }
        return (wantUpper ? upper : lower) / a;
    }

    /** What the text tells of a room, which stays as it is till another text is the room. */
    private static final class Plan {
        private int letters;
        private int clerks;
        private int grain;
        private final int[] homes = new int[MOST_LETTERS];
        private final int[] waits = new int[MOST_LETTERS];
        private final int[] kinds = new int[MOST_LETTERS];
        private final int[] alone = new int[MOST_LETTERS];
        private final int[] posts = new int[MOST_CLERKS];
        private final int[] answers = new int[MOST_CLERKS];

        void clear() {
            letters = 0;
            clerks = 0;
            grain = 0;
        }

        boolean hasLetter(int letter) {
            return letter >= 0 && letter < letters;
        }

        boolean hasClerk(int clerk) {
            return clerk >= 0 && clerk < clerks;
        }

        int homesIn(int hole) {
            int count = 0;
            for (int l = 0; l < letters; l++) {
                if (homes[l] == hole) {
                    count++;
                }
            }
            return count;
        }
    }

    /** The text, and the reading of it byte by byte. */
    private static final class Script {
        private static final int AT_M = 0, AT_GRAIN = 1, AT_THING = 2, AT_HOLE = 3, AT_WAIT = 4, AT_KIND = 5,
                AT_ROW = 6, AT_ANSWERS = 7, NOWHERE = -1;

        private final int[] bytes = new int[MOST_BYTES];
        private int length;
        private final Plan draft = new Plan();

        int add(int letter) {
            if (length >= MOST_BYTES) {
                return FULL;
            }
            bytes[length] = letter;
            length++;
            return length;
        }

        int clear() {
            int was = length;
            length = 0;
            return was;
        }

        int firstFault() {
            return readInto(draft);
        }

        /** Fills the plan as far as the text can be read, and tells the fault. */
        int readInto(Plan plan) {
            plan.clear();
            int at = AT_M;
            for (int i = 0; i < length; i++) {
                at = at <= AT_THING ? readOutside(plan, at, bytes[i]) : readInside(plan, at, bytes[i]);
                if (at == NOWHERE) {
                    return i;
                }
            }
            return at == AT_THING ? NONE : length;
        }

        private static int readOutside(Plan plan, int at, int sign) {
            if (at == AT_M) {
                return sign == 'M' ? AT_GRAIN : NOWHERE;
            }
            if (at == AT_GRAIN) {
                plan.grain = sign - '0';
                return isFigure(sign, 0, 9) ? AT_THING : NOWHERE;
            }
            if (sign == 'L' && plan.letters < MOST_LETTERS) {
                return AT_HOLE;
            }
            return sign == 'C' && plan.clerks < MOST_CLERKS ? AT_ROW : NOWHERE;
        }

        private static int readInside(Plan plan, int at, int sign) {
            // A thing is counted only behind its last byte, so these are the places of the one being told.
            int l = plan.letters;
            int c = plan.clerks;
            if (at <= AT_KIND ? l >= MOST_LETTERS : c >= MOST_CLERKS) {
                return NOWHERE;
            }
            switch (at) {
                case AT_HOLE:
                    plan.homes[l] = sign - 'a';
                    return isHole(sign - 'a') && plan.homesIn(sign - 'a') < HOLE_ROOM ? AT_WAIT : NOWHERE;
                case AT_WAIT:
                    plan.waits[l] = sign - '0';
                    return isFigure(sign, 1, MOST_WAIT) ? AT_KIND : NOWHERE;
                case AT_KIND:
                    if (!isFigure(sign, 0, KINDS - 1)) {
                        return NOWHERE;
                    }
                    plan.kinds[l] = sign - '0';
                    plan.alone[l] = waitAlone(plan.waits[l], plan.kinds[l]);
                    plan.letters++;
                    return AT_THING;
                case AT_ROW:
                    plan.posts[c] = sign - '0';
                    return isFigure(sign, 0, ROWS - 1) ? AT_ANSWERS : NOWHERE;
                default:
                    if (!isFigure(sign, 1, 3)) {
                        return NOWHERE;
                    }
                    plan.answers[c] = sign - '0';
                    plan.clerks++;
                    return AT_THING;
            }
        }

        private static boolean isFigure(int sign, int least, int most) {
            return sign >= '0' + least && sign <= '0' + most;
        }
    }

    /** All that days and other acts change. It lies in one row of cells so that it is copied at once. */
    private static final class Hall {
        private static final int HOLE = 0, WAITED = MOST_LETTERS, FATE = 2 * MOST_LETTERS, ROW = 3 * MOST_LETTERS,
                GRAIN = ROW + MOST_CLERKS, DAY = GRAIN + 1, CELLS = DAY + 1;

        private final Plan plan;
        private final int[] cells = new int[CELLS];
        private final int[] answeredBy = new int[MOST_CLERKS];

        Hall(Plan plan) {
            this.plan = plan;
        }

        void begin() {
            for (int l = 0; l < plan.letters; l++) {
                cells[HOLE + l] = plan.homes[l];
                cells[WAITED + l] = 0;
                cells[FATE + l] = LIES;
            }
            for (int c = 0; c < plan.clerks; c++) {
                cells[ROW + c] = plan.posts[c];
            }
            cells[GRAIN] = plan.grain;
            cells[DAY] = 0;
        }

        void beLike(Hall other) {
            System.arraycopy(other.cells, 0, cells, 0, CELLS);
            for (int c = 0; c < MOST_CLERKS; c++) {
                answeredBy[c] = 0;
            }
        }

        int holeOf(int letter) {
            return cells[HOLE + letter];
        }

        int waitedOf(int letter) {
            return cells[WAITED + letter];
        }

        int fateOf(int letter) {
            return cells[FATE + letter];
        }

        int rowOf(int clerk) {
            return cells[ROW + clerk];
        }

        int grain() {
            return cells[GRAIN];
        }

        int theDay() {
            return cells[DAY];
        }

        int who(int fate) {
            int bits = 0;
            for (int l = 0; l < plan.letters; l++) {
                if (cells[FATE + l] == fate) {
                    bits |= 1 << l;
                }
            }
            return bits;
        }

        int lost() {
            return Integer.bitCount(who(HATCHED) | who(FLOWN));
        }

        int whoIsIn(int hole) {
            int bits = 0;
            for (int l = 0; l < plan.letters; l++) {
                int fate = cells[FATE + l];
                if (cells[HOLE + l] == hole && (fate == LIES || fate == HATCHED)) {
                    bits |= 1 << l;
                }
            }
            return bits;
        }

        int pairs() {
            int birds = who(HATCHED);
            int bits = 0;
            for (int h = 0; h < HOLES; h++) {
                if (Integer.bitCount(whoIsIn(h) & birds) >= 2) {
                    bits |= 1 << h;
                }
            }
            return bits;
        }

        /** The days that a letter has to wait yet, were it to lie; 0: it has waited as long as it needs, or longer. */
        int daysLeft(int letter) {
            int left = plan.alone[letter] - cells[WAITED + letter];
            if (plan.kinds[letter] == PETITION) {
                int hole = cells[HOLE + letter];
                for (int l = 0; l < plan.letters; l++) {
                    if (l != letter && cells[FATE + l] == LIES && cells[HOLE + l] == hole) {
                        left++;
                    }
                }
            }
            return left < 0 ? 0 : left;
        }

        boolean canPut(int letter, int hole) {
            return plan.hasLetter(letter) && isHole(hole) && cells[FATE + letter] == LIES
                    && cells[HOLE + letter] != hole && Integer.bitCount(whoIsIn(hole)) < HOLE_ROOM;
        }

        void moveTo(int letter, int hole) {
            cells[HOLE + letter] = hole;
        }

        boolean canSend(int clerk, int row) {
            return plan.hasClerk(clerk) && isRow(row) && cells[ROW + clerk] != row;
        }

        void sendTo(int clerk, int row) {
            cells[ROW + clerk] = row;
        }

        void addGrain(int n) {
            cells[GRAIN] = Math.min(MOST_GRAIN, cells[GRAIN] + n);
        }

        void answer(int letter) {
            cells[FATE + letter] = ANSWERED;
        }

        /** A day; how many hatched in it, those that flew at once too. */
        int passDay() {
            for (int c = 0; c < plan.clerks; c++) {
                clerkAnswers(c);
            }
            for (int l = 0; l < plan.letters; l++) {
                if (cells[FATE + l] == LIES) {
                    cells[WAITED + l]++;
                }
            }
            int hatched = 0;
            for (int l = 0; l < plan.letters; l++) {
                if (cells[FATE + l] == LIES && daysLeft(l) == 0) {
                    hatch(l);
                    hatched++;
                }
            }
            birdsEat();
            cells[DAY]++;
            return hatched;
        }

        private void clerkAnswers(int clerk) {
            for (int i = 0; i < plan.answers[clerk]; i++) {
                int letter = mostPressing(cells[ROW + clerk]);
                if (letter == NONE) {
                    return;
                }
                cells[FATE + letter] = ANSWERED;
                answeredBy[clerk]++;
            }
        }

        private int mostPressing(int row) {
            int best = NONE;
            int fewest = 0;
            for (int l = 0; l < plan.letters; l++) {
                if (cells[FATE + l] == LIES && cells[HOLE + l] / HOLES_IN_ROW == row) {
                    int left = daysLeft(l);
                    if (best == NONE || left < fewest) {
                        best = l;
                        fewest = left;
                    }
                }
            }
            return best;
        }

        private void hatch(int letter) {
            cells[FATE + letter] = HATCHED;
            int hole = cells[HOLE + letter];
            if (plan.kinds[letter] != URGENT || hole < HOLES_IN_ROW) {
                return;
            }
            for (int l = 0; l < plan.letters; l++) {
                if (cells[FATE + l] == LIES && cells[HOLE + l] == hole) {
                    cells[HOLE + l] = hole - HOLES_IN_ROW;
                }
            }
        }

        private void birdsEat() {
            for (int l = 0; l < plan.letters; l++) {
                if (cells[FATE + l] == HATCHED) {
                    if (cells[GRAIN] > 0) {
                        cells[GRAIN]--;
                    } else {
                        cells[FATE + l] = FLOWN;
                    }
                }
            }
        }
    }

    /** Copies of the hall, side by side. */
    private static final class Shelf {
        private final int size;
        private final int[] cells;

        Shelf(int size) {
            this.size = Math.max(0, size);
            this.cells = new int[this.size * Hall.CELLS];
        }

        void store(int place, Hall hall) {
            if (place >= 0 && place < size) {
                System.arraycopy(hall.cells, 0, cells, place * Hall.CELLS, Hall.CELLS);
            }
        }

        void fetch(int place, Hall hall) {
            if (place >= 0 && place < size) {
                System.arraycopy(cells, place * Hall.CELLS, hall.cells, 0, Hall.CELLS);
            }
        }
    }

    /** How the hall was ahead of each act, in a ring, so that the first one is forgotten without moving the others. */
    private static final class Past {
        private final Shelf shelf = new Shelf(MOST_ACTS);
        private int first;
        private int count;

        void clear() {
            first = 0;
            count = 0;
        }

        void remember(Hall hall) {
            shelf.store((first + count) % MOST_ACTS, hall);
            if (count < MOST_ACTS) {
                count++;
            } else {
                first = (first + 1) % MOST_ACTS;
            }
        }

        void goBack(Hall hall) {
            if (count > 0) {
                count--;
                shelf.fetch((first + count) % MOST_ACTS, hall);
            }
        }
    }

    /** What is asked with nothing changed: all of it is tried in a hall of its own. */
    private static final class Outlook {
        // No hole is in this row, so a clerk there answers nothing, as if it had not come.
        private static final int AWAY = ROWS;
        private static final int DOING = 10000;
        private static final long FACTOR = 6364136223846793005L, STEP = 1442695040888963407L;
        private static final int FATES_OF_YEARS = 24;

        private final Plan plan;
        private final Hall now;
        private final Hall then;
        private final int[] doings = new int[MOST_DOINGS];
        private final int[] lostWith = new int[1 << MOST_CLERKS];
        private final int[] gainOfOne = new int[ROWS * ROWS];
        private final int[] gainOfOther = new int[ROWS * ROWS];
        private long seedBehind;

        Outlook(Plan plan, Hall now) {
            this.plan = plan;
            this.now = now;
            this.then = new Hall(plan);
        }

        int whoIn(int days, int fate) {
            then.beLike(now);
            for (int d = 0; d < days; d++) {
                then.passDay();
            }
            return then.who(fate);
        }

        /** The days till a letter hatches, were it in that hole now; more than FAR: it does not. */
        int daysToHatch(int letter, int hole) {
            then.beLike(now);
            then.moveTo(letter, hole);
            for (int d = 0; d <= FAR; d++) {
                int fate = then.fateOf(letter);
                if (fate != LIES) {
                    return fate == ANSWERED ? FAR + 1 : d;
                }
                then.passDay();
            }
            return FAR + 1;
        }

        int bestRows(boolean wantWay) {
            int ways = 1;
            for (int c = 0; c < plan.clerks; c++) {
                ways *= ROWS;
            }
            int best = 0;
            int fewest = NONE;
            for (int way = 0; way < ways; way++) {
                then.beLike(now);
                int figures = sendAll(way);
                for (int d = 0; d < SOON; d++) {
                    then.passDay();
                }
                int lost = then.lost();
                if (fewest == NONE || lost < fewest) {
                    fewest = lost;
                    best = figures;
                }
            }
            return wantWay ? best : fewest;
        }

        /** Sends clerks as the way's figures to base 3 say, the last clerk's the lowest; tells them to base 10. */
        private int sendAll(int way) {
            int figures = 0;
            int unit = 1;
            int rest = way;
            for (int c = plan.clerks - 1; c >= 0; c--) {
                then.sendTo(c, rest % ROWS);
                figures += (rest % ROWS + 1) * unit;
                rest /= ROWS;
                unit *= 10;
            }
            return figures;
        }

        int safestHole(int letter) {
            int best = NONE;
            int latest = 0;
            for (int h = 0; h < HOLES; h++) {
                if (h == now.holeOf(letter) || now.canPut(letter, h)) {
                    int days = daysToHatch(letter, h);
                    if (best == NONE || days > latest) {
                        best = h;
                        latest = days;
                    }
                }
            }
            return best;
        }

        int fewestForQuiet() {
            int lying = now.who(LIES);
            for (int count = 0; count < MOST_LETTERS; count++) {
                for (int bits = 0; bits <= lying; bits++) {
                    if ((bits & ~lying) == 0 && Integer.bitCount(bits) == count && isQuiet(bits)) {
                        return bits;
                    }
                }
            }
            return lying;
        }

        private boolean isQuiet(int answered) {
            then.beLike(now);
            for (int l = 0; l < plan.letters; l++) {
                if ((answered >> l & 1) != 0) {
                    then.answer(l);
                }
            }
            for (int d = 0; d < SOON; d++) {
                if (then.passDay() > 0) {
                    return false;
                }
            }
            return true;
        }

        int firstThatCanNotBe(int n, long row) {
            int count = Math.min(n, MOST_DOINGS);
            long rest = row;
            for (int i = count - 1; i >= 0; i--) {
                doings[i] = (int) (rest % DOING);
                rest /= DOING;
            }
            if (rest != 0) {
                return BAD;
            }
            then.beLike(now);
            for (int i = 0; i < count; i++) {
                if (!doIfCan(doings[i])) {
                    return i;
                }
            }
            return NONE;
        }

        private boolean doIfCan(int doing) {
            int whose = doing / 100 % 10;
            int third = doing / 10 % 10;
            int last = doing % 10;
            switch (doing / 1000) {
                case 0:
                    if (doing == 0) {
                        then.passDay();
                    }
                    return doing == 0;
                case 1:
                    return putIfCan(whose, doing % 100);
                case 2:
                    if (whose != 0 || third != 0 || last == 0) {
                        return false;
                    }
                    then.addGrain(last);
                    return true;
                case 3:
                    return third == 0 && sendIfCan(whose, last);
                case 4:
                    return third == 0 && plan.hasLetter(whose) && then.fateOf(whose) == last;
                default:
                    return false;
            }
        }

        private boolean putIfCan(int letter, int hole) {
            boolean can = then.canPut(letter, hole);
            if (can) {
                then.moveTo(letter, hole);
            }
            return can;
        }

        private boolean sendIfCan(int clerk, int row) {
            boolean can = then.canSend(clerk, row);
            if (can) {
                then.sendTo(clerk, row);
            }
            return can;
        }

        int shareOf(int clerk, boolean upper) {
            fillLostWith();
            int sum = 0;
            int orders = 0;
            for (int bits = 0; bits < 1 << plan.clerks; bits++) {
                if ((bits >> clerk & 1) == 0) {
                    int before = Integer.bitCount(bits);
                    // In so many orders just these come ahead of the clerk.
                    int ways = factorial(before) * factorial(plan.clerks - 1 - before);
                    sum += ways * (lostWith[bits] - lostWith[bits | 1 << clerk]);
                    orders += ways;
                }
            }
            return part(sum, Math.max(1, orders), upper);
        }

        private void fillLostWith() {
            for (int bits = 0; bits < 1 << plan.clerks; bits++) {
                then.beLike(now);
                for (int c = 0; c < plan.clerks; c++) {
                    if ((bits >> c & 1) == 0) {
                        then.sendTo(c, AWAY);
                    }
                }
                for (int d = 0; d < SOON; d++) {
                    then.passDay();
                }
                lostWith[bits] = then.lost();
            }
        }

        private static int factorial(int n) {
            int product = 1;
            for (int i = 2; i <= n; i++) {
                product *= i;
            }
            return product;
        }

        int restsOf(int one, int other, boolean wantFirst) {
            fillGains(one, other);
            int count = 0;
            int first = NONE;
            for (int a = 0; a < ROWS; a++) {
                for (int b = 0; b < ROWS; b++) {
                    if (isRest(a, b)) {
                        if (count == 0) {
                            first = 10 * a + b;
                        }
                        count++;
                    }
                }
            }
            return wantFirst ? first : count;
        }

        private void fillGains(int one, int other) {
            for (int a = 0; a < ROWS; a++) {
                for (int b = 0; b < ROWS; b++) {
                    then.beLike(now);
                    then.sendTo(one, a);
                    then.sendTo(other, b);
                    for (int d = 0; d < REST_DAYS; d++) {
                        then.passDay();
                    }
                    int at = ROWS * a + b;
                    gainOfOne[at] = then.answeredBy[one] - (a == now.rowOf(one) ? 0 : 1);
                    gainOfOther[at] = then.answeredBy[other] - (b == now.rowOf(other) ? 0 : 1);
                }
            }
        }

        private boolean isRest(int a, int b) {
            int at = ROWS * a + b;
            for (int r = 0; r < ROWS; r++) {
                if (gainOfOne[ROWS * r + b] > gainOfOne[at] || gainOfOther[ROWS * a + r] > gainOfOther[at]) {
                    return false;
                }
            }
            return true;
        }

        int birdsOfYears(int times, long seed) {
            then.beLike(now);
            int sum = 0;
            long x = seed;
            for (int i = 0; i < times; i++) {
                x = x * FACTOR + STEP;
                happen((int) ((x >>> 33) % FATES_OF_YEARS));
                sum += Integer.bitCount(then.who(HATCHED));
            }
            seedBehind = x;
            return sum;
        }

        private void happen(int what) {
            if (what < HOLES) {
                putIfCan(0, what);
            } else if (what < HOLES + ROWS) {
                sendIfCan(0, what - HOLES);
            } else if (what == HOLES + ROWS) {
                then.addGrain(1);
            } else {
                then.passDay();
            }
        }
    }

    /** What is told of a letter by its bird. */
    private static final class Told {
        private final int[] days = new int[MOST_TOLD];
        private final boolean[] hatched = new boolean[MOST_TOLD];
        private int count;

        int add(int n, boolean was) {
            if (count >= MOST_TOLD) {
                return FULL;
            }
            days[count] = n;
            hatched[count] = was;
            count++;
            return count;
        }

        int clear() {
            int was = count;
            count = 0;
            return was;
        }

        int howMany() {
            int sum = 0;
            for (int kind = 0; kind < KINDS; kind++) {
                for (int wait = 1; wait <= MOST_WAIT; wait++) {
                    if (fits(waitAlone(wait, kind))) {
                        sum++;
                    }
                }
            }
            return sum;
        }

        int first() {
            for (int kind = 0; kind < KINDS; kind++) {
                for (int wait = 1; wait <= MOST_WAIT; wait++) {
                    if (fits(waitAlone(wait, kind))) {
                        return 10 * kind + wait;
                    }
                }
            }
            return NONE;
        }

        private boolean fits(int needed) {
            for (int i = 0; i < count; i++) {
                if (days[i] >= needed != hatched[i]) {
                    return false;
                }
            }
            return true;
        }
    }

    /** What hawks leave: in how many of 10 to the number of birds cases how many are left. */
    private static final class Chance {
        private final int[] cases = new int[MOST_LETTERS + 1];

        int left(int birds, int least, int tenths, boolean upper) {
            int all = fill(Math.min(birds, MOST_LETTERS), tenths);
            int sum = 0;
            for (int left = Math.max(0, least); left <= MOST_LETTERS; left++) {
                sum += cases[left];
            }
            return part(sum, Math.max(1, all), upper);
        }

        private int fill(int birds, int tenths) {
            for (int left = 1; left <= MOST_LETTERS; left++) {
                cases[left] = 0;
            }
            cases[0] = 1;
            int all = 1;
            for (int b = 0; b < birds; b++) {
                for (int left = MOST_LETTERS; left > 0; left--) {
                    cases[left] = cases[left] * tenths + cases[left - 1] * (10 - tenths);
                }
                cases[0] *= tenths;
                all *= 10;
            }
            return all;
        }
    }
}
