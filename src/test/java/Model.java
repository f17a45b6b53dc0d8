import java.math.BigInteger;
import java.util.ArrayList;
import java.util.List;
import java.util.regex.Pattern;

/**
 * The document once more, written slowly and with the whole library, as another way to the same answers.
 * It has nothing in common with the class but the document.
 */
final class Model {
    enum Fate { LIES, ANSWERED, HATCHED, FLOWN }

    static final class Letter {
        int hole, wait, kind, waited;
        Fate fate = Fate.LIES;

        Letter copy() {
            Letter c = new Letter();
            c.hole = hole;
            c.wait = wait;
            c.kind = kind;
            c.waited = waited;
            c.fate = fate;
            return c;
        }
    }

    static final class Clerk {
        int row, answers, score;
        boolean there = true;

        Clerk copy() {
            Clerk c = new Clerk();
            c.row = row;
            c.answers = answers;
            return c;
        }
    }

    static final class World {
        List<Letter> letters = new ArrayList<>();
        List<Clerk> clerks = new ArrayList<>();
        int grain, day;

        World copy() {
            World w = new World();
            letters.forEach(l -> w.letters.add(l.copy()));
            clerks.forEach(c -> w.clerks.add(c.copy()));
            w.grain = grain;
            w.day = day;
            return w;
        }

        int needs(Letter l) {
            switch (l.kind) {
                case 2:
                    return l.wait < 2 ? 1 : l.wait / 2;
                case 3:
                    return l.wait + (int) letters.stream()
                            .filter(o -> o != l && o.fate == Fate.LIES && o.hole == l.hole).count();
                default:
                    return l.wait;
            }
        }

        int yet(Letter l) {
            return Math.max(0, needs(l) - l.waited);
        }

        int pass() {
            for (Clerk c : clerks) {
                for (int i = 0; c.there && i < c.answers; i++) {
                    Letter pick = null;
                    for (Letter l : letters) {
                        if (l.fate == Fate.LIES && l.hole / 4 == c.row && (pick == null || yet(l) < yet(pick))) {
                            pick = l;
                        }
                    }
                    if (pick != null) {
                        pick.fate = Fate.ANSWERED;
                        c.score++;
                    }
                }
            }
            letters.stream().filter(l -> l.fate == Fate.LIES).forEach(l -> l.waited++);
            int born = 0;
            for (Letter l : letters) {
                if (l.fate == Fate.LIES && l.waited >= needs(l)) {
                    l.fate = Fate.HATCHED;
                    born++;
                    for (Letter o : letters) {
                        if (l.kind == 1 && o.fate == Fate.LIES && o.hole == l.hole && l.hole >= 4) {
                            o.hole -= 4;
                        }
                    }
                }
            }
            for (Letter l : letters) {
                if (l.fate == Fate.HATCHED && --grain < 0) {
                    grain = 0;
                    l.fate = Fate.FLOWN;
                }
            }
            day++;
            return born;
        }

        World pass(int n) {
            for (int i = 0; i < n; i++) {
                pass();
            }
            return this;
        }

        int bits(Fate f) {
            int b = 0;
            for (int i = 0; i < letters.size(); i++) {
                b += letters.get(i).fate == f ? 1 << i : 0;
            }
            return b;
        }

        int lost() {
            return (int) letters.stream().filter(l -> l.fate == Fate.HATCHED || l.fate == Fate.FLOWN).count();
        }

        int in(int hole) {
            int b = 0;
            for (int i = 0; i < letters.size(); i++) {
                Letter l = letters.get(i);
                b += l.hole == hole && (l.fate == Fate.LIES || l.fate == Fate.HATCHED) ? 1 << i : 0;
            }
            return b;
        }

        boolean put(int l, int hole) {
            if (l >= letters.size() || hole > 11) {
                return false;
            }
            Letter letter = letters.get(l);
            if (letter.fate != Fate.LIES || letter.hole == hole || Integer.bitCount(in(hole)) >= 2) {
                return false;
            }
            letter.hole = hole;
            return true;
        }

        boolean send(int c, int row) {
            if (c >= clerks.size() || row > 2 || clerks.get(c).row == row) {
                return false;
            }
            clerks.get(c).row = row;
            return true;
        }

        boolean feed(int n) {
            grain = Math.min(99, grain + n);
            return n > 0;
        }
    }

    private static final Pattern ROOM = Pattern.compile("M[0-9](L[a-l][1-9][0-3]|C[0-2][1-3])*", Pattern.DOTALL);

    private StringBuilder text = new StringBuilder();
    private World now = new World();
    private final List<World> acts = new ArrayList<>();
    private World[] slots = new World[2];
    private final List<int[]> told = new ArrayList<>();
    private long seed;

    private static boolean isRoom(String s) {
        if (!ROOM.matcher(s).matches()) {
            return false;
        }
        int[] in = new int[128];
        int letters = 0;
        int clerks = 0;
        for (int i = 2; i < s.length(); i += s.charAt(i) == 'L' ? 4 : 3) {
            if (s.charAt(i) == 'L') {
                letters++;
                in[s.charAt(i + 1)]++;
            } else {
                clerks++;
            }
        }
        for (int n : in) {
            if (n > 2) {
                return false;
            }
        }
        return letters <= 6 && clerks <= 3;
    }

    /** Whether something can come behind it that makes it a room. */
    private static boolean canGoOn(String s) {
        String[] rests = {"", "M0", "0", "1", "10", "01"};
        for (String r : rests) {
            if (isRoom(s + r)) {
                return true;
            }
        }
        for (char h = 'a'; h <= 'l'; h++) {
            if (isRoom(s + h + "10")) {
                return true;
            }
        }
        return false;
    }

    int write(int b) {
        if (b < 0 || b > 255) {
            return -2;
        }
        if (text.length() == 48) {
            return -4;
        }
        return text.append((char) b).length();
    }

    int wipe() {
        int n = text.length();
        text = new StringBuilder();
        return n;
    }

    int fault() {
        for (int i = 0; i < text.length(); i++) {
            if (!canGoOn(text.substring(0, i + 1))) {
                return i;
            }
        }
        return isRoom(text.toString()) ? -9 : text.length();
    }

    int room() {
        if (!isRoom(text.toString())) {
            return -3;
        }
        now = new World();
        now.grain = text.charAt(1) - '0';
        for (int i = 2; i < text.length();) {
            if (text.charAt(i) == 'L') {
                Letter l = new Letter();
                l.hole = text.charAt(i + 1) - 'a';
                l.wait = text.charAt(i + 2) - '0';
                l.kind = text.charAt(i + 3) - '0';
                now.letters.add(l);
                i += 4;
            } else {
                Clerk c = new Clerk();
                c.row = text.charAt(i + 1) - '0';
                c.answers = text.charAt(i + 2) - '0';
                now.clerks.add(c);
                i += 3;
            }
        }
        acts.clear();
        slots = new World[2];
        return 10 * now.letters.size() + now.clerks.size();
    }

    int about(int what) {
        if (what < 0 || what > 11) {
            return -2;
        }
        int pairs = 0;
        for (int h = 0; h < 12; h++) {
            pairs += Integer.bitCount(now.in(h) & now.bits(Fate.HATCHED)) > 1 ? 1 << h : 0;
        }
        return new int[] {now.letters.size(), now.clerks.size(), now.day, now.grain, now.bits(Fate.LIES),
            now.bits(Fate.ANSWERED), now.bits(Fate.HATCHED), now.bits(Fate.FLOWN), pairs, acts.size(), told.size(),
            text.length()}[what];
    }

    private boolean noLetter(int l) {
        return l < 0 || l >= now.letters.size();
    }

    private boolean noClerk(int c) {
        return c < 0 || c >= now.clerks.size();
    }

    int letter(int l, int what) {
        if (noLetter(l)) {
            return -1;
        }
        if (what < 0 || what > 5) {
            return -2;
        }
        Letter x = now.letters.get(l);
        return new int[] {x.hole, x.wait, x.kind, x.fate.ordinal(), x.waited,
            x.fate == Fate.LIES ? now.yet(x) : -9}[what];
    }

    int clerk(int c, int what) {
        if (noClerk(c)) {
            return -1;
        }
        Clerk x = now.clerks.get(c);
        return what == 0 ? x.row : what == 1 ? x.answers : -2;
    }

    int hole(int h) {
        return h < 0 || h > 11 ? -1 : now.in(h);
    }

    private void act(World was) {
        acts.add(was);
        if (acts.size() > 14) {
            acts.remove(0);
        }
    }

    int day() {
        act(now.copy());
        return now.pass();
    }

    int put(int l, int h) {
        if (noLetter(l) || h < 0 || h > 11) {
            return -1;
        }
        World was = now.copy();
        if (!now.put(l, h)) {
            return -3;
        }
        act(was);
        return was.letters.get(l).hole;
    }

    int feed(int n) {
        if (n < 1 || n > 9) {
            return -2;
        }
        act(now.copy());
        now.feed(n);
        return now.grain;
    }

    int send(int c, int row) {
        if (noClerk(c) || row < 0 || row > 2) {
            return -1;
        }
        World was = now.copy();
        if (!now.send(c, row)) {
            return -3;
        }
        act(was);
        return was.clerks.get(c).row;
    }

    int undo() {
        if (acts.isEmpty()) {
            return -3;
        }
        now = acts.remove(acts.size() - 1);
        return acts.size();
    }

    int ahead(int n, int what) {
        if (n < 0 || n > 20 || what < 0 || what > 3) {
            return -2;
        }
        return now.copy().pass(n).bits(Fate.values()[what]);
    }

    private static int hatchDay(World w, int l) {
        World x = w.copy();
        for (int d = 0; d <= 20; d++) {
            if (x.letters.get(l).fate.ordinal() >= 2) {
                return d;
            }
            x.pass();
        }
        return -9;
    }

    int hatches(int l) {
        return noLetter(l) ? -1 : hatchDay(now, l);
    }

    int rows(boolean way) {
        int k = now.clerks.size();
        int few = Integer.MAX_VALUE;
        int best = 0;
        for (int figures = 0; figures <= 333; figures++) {
            String s = figures == 0 ? "" : "" + figures;
            if (s.length() != k || !s.matches("[123]*")) {
                continue;
            }
            World w = now.copy();
            for (int c = 0; c < k; c++) {
                w.clerks.get(c).row = s.charAt(c) - '1';
            }
            int lost = w.pass(9).lost();
            if (lost < few) {
                few = lost;
                best = figures;
            }
        }
        return way ? best : few;
    }

    int saved(int l) {
        if (noLetter(l)) {
            return -1;
        }
        if (now.letters.get(l).fate != Fate.LIES) {
            return -3;
        }
        int latest = -1;
        int best = -1;
        for (int h = 0; h < 12; h++) {
            World w = now.copy();
            if (w.letters.get(l).hole == h || w.put(l, h)) {
                int d = hatchDay(w, l);
                int rank = d < 0 ? 1000 : d;
                if (rank > latest) {
                    latest = rank;
                    best = h;
                }
            }
        }
        return best;
    }

    int quiet() {
        int best = -1;
        for (int set = 0; set < 64; set++) {
            if ((set & now.bits(Fate.LIES)) != set) {
                continue;
            }
            World w = now.copy();
            for (int l = 0; l < w.letters.size(); l++) {
                if ((set >> l) % 2 == 1) {
                    w.letters.get(l).fate = Fate.ANSWERED;
                }
            }
            int born = 0;
            for (int d = 0; d < 9; d++) {
                born += w.pass();
            }
            if (born == 0 && (best < 0 || Integer.bitCount(set) < Integer.bitCount(best))) {
                best = set;
            }
        }
        return best;
    }

    int judge(int n, long row) {
        if (n < 1 || n > 4 || row < 0 || Long.toString(row).length() > 4 * n) {
            return -2;
        }
        String s = "0".repeat(4 * n - Long.toString(row).length()) + row;
        World w = now.copy();
        for (int i = 0; i < n; i++) {
            String d = s.substring(4 * i, 4 * i + 4);
            int second = d.charAt(1) - '0';
            int last = d.charAt(3) - '0';
            boolean can = false;
            if (d.equals("0000")) {
                w.pass();
                can = true;
            } else if (d.startsWith("1")) {
                can = w.put(second, Integer.parseInt(d.substring(2)));
            } else if (d.startsWith("200")) {
                can = w.feed(last);
            } else if (d.matches("3.0.")) {
                can = w.send(second, last);
            } else if (d.matches("4.0.")) {
                can = second < w.letters.size() && w.letters.get(second).fate.ordinal() == last;
            }
            if (!can) {
                return i;
            }
        }
        return -9;
    }

    private int lostWith(List<Integer> there) {
        World w = now.copy();
        for (int c = 0; c < w.clerks.size(); c++) {
            w.clerks.get(c).there = there.contains(c);
        }
        return w.pass(9).lost();
    }

    private int[] shareOver(List<Integer> come, int clerk) {
        int[] sum = {0, 0};
        if (come.size() == now.clerks.size()) {
            int at = come.indexOf(clerk);
            sum[0] = lostWith(come.subList(0, at)) - lostWith(come.subList(0, at + 1));
            sum[1] = 1;
            return sum;
        }
        for (int c = 0; c < now.clerks.size(); c++) {
            if (!come.contains(c)) {
                List<Integer> more = new ArrayList<>(come);
                more.add(c);
                int[] part = shareOver(more, clerk);
                sum[0] += part[0];
                sum[1] += part[1];
            }
        }
        return sum;
    }

    private static int part(BigInteger a, BigInteger b, boolean upper) {
        return (upper ? a : b).divide(a.gcd(b)).intValueExact();
    }

    int share(int c, boolean upper) {
        if (noClerk(c)) {
            return -1;
        }
        int[] s = shareOver(new ArrayList<>(), c);
        return part(BigInteger.valueOf(s[0]), BigInteger.valueOf(s[1]), upper);
    }

    int tell(int n, int hatched) {
        if (n < 0 || n > 9 || hatched < 0 || hatched > 1) {
            return -2;
        }
        if (told.size() == 6) {
            return -4;
        }
        told.add(new int[] {n, hatched});
        return told.size();
    }

    int untell() {
        int n = told.size();
        told.clear();
        return n;
    }

    int may(int what) {
        if (what != 0 && what != 1) {
            return -2;
        }
        List<Integer> all = new ArrayList<>();
        for (int code = 1; code < 40; code++) {
            if (code % 10 == 0) {
                continue;
            }
            boolean fits = true;
            for (int[] t : told) {
                World w = new World();
                Letter l = new Letter();
                l.kind = code / 10;
                l.wait = code % 10;
                w.letters.add(l);
                w.grain = 99;
                w.pass(t[0]);
                fits &= (l.fate == Fate.HATCHED) == (t[1] == 1);
            }
            if (fits) {
                all.add(code);
            }
        }
        return what == 0 ? all.size() : all.isEmpty() ? -9 : all.get(0);
    }

    private int[] gains(int one, int other, int a, int b) {
        World w = now.copy();
        w.clerks.get(one).row = a;
        w.clerks.get(other).row = b;
        w.pass(3);
        int[] g = {w.clerks.get(one).score, w.clerks.get(other).score};
        g[0] -= now.clerks.get(one).row == a ? 0 : 1;
        g[1] -= now.clerks.get(other).row == b ? 0 : 1;
        return g;
    }

    int rests(int one, int other, int what) {
        if (noClerk(one) || noClerk(other)) {
            return -1;
        }
        if (one == other || what != 0 && what != 1) {
            return -2;
        }
        List<Integer> all = new ArrayList<>();
        for (int a = 0; a < 3; a++) {
            for (int b = 0; b < 3; b++) {
                boolean rest = true;
                int[] g = gains(one, other, a, b);
                for (int r = 0; r < 3; r++) {
                    rest &= gains(one, other, r, b)[0] <= g[0] && gains(one, other, a, r)[1] <= g[1];
                }
                if (rest) {
                    all.add(10 * a + b);
                }
            }
        }
        return what == 0 ? all.size() : all.isEmpty() ? -9 : all.get(0);
    }

    int hawks(int m, int x, boolean upper) {
        if (m < 0 || m > 6 || x < 0 || x > 10) {
            return -2;
        }
        int birds = Integer.bitCount(now.bits(Fate.HATCHED));
        BigInteger sum = BigInteger.ZERO;
        for (int left = 0; left < 1 << birds; left++) {
            int n = Integer.bitCount(left);
            if (n >= m) {
                sum = sum.add(BigInteger.valueOf(10 - x).pow(n).multiply(BigInteger.valueOf(x).pow(birds - n)));
            }
        }
        return part(sum, BigInteger.TEN.pow(birds), upper);
    }

    long seed(long v) {
        long was = seed;
        seed = v;
        return was;
    }

    int years(int m) {
        if (m < 1 || m > 30) {
            return -2;
        }
        World w = now.copy();
        int sum = 0;
        BigInteger word = BigInteger.ONE.shiftLeft(64);
        BigInteger x = BigInteger.valueOf(seed).mod(word);
        for (int i = 0; i < m; i++) {
            x = x.multiply(new BigInteger("6364136223846793005")).add(new BigInteger("1442695040888963407")).mod(word);
            int fate = x.shiftRight(33).mod(BigInteger.valueOf(24)).intValue();
            if (fate <= 11) {
                w.put(0, fate);
            } else if (fate <= 14) {
                w.send(0, fate - 12);
            } else if (fate == 15) {
                w.feed(1);
            } else {
                w.pass();
            }
            sum += Integer.bitCount(w.bits(Fate.HATCHED));
        }
        seed = x.longValue();
        return sum;
    }

    int keep(int slot) {
        if (slot != 0 && slot != 1) {
            return -1;
        }
        slots[slot] = now.copy();
        return now.day;
    }

    int again(int slot) {
        if (slot != 0 && slot != 1) {
            return -1;
        }
        if (slots[slot] == null) {
            return -3;
        }
        now = slots[slot].copy();
        acts.clear();
        return now.day;
    }
}
