import java.math.BigInteger;
import java.util.ArrayDeque;
import java.util.ArrayList;
import java.util.Arrays;
import java.util.Deque;
import java.util.List;

/**
 * The document once more, as slowly and plainly as can be: all ways are listed and all are tried.
 * It is held against FacingFields, so it shares no code with it.
 */
final class NaiveFields {
    private static final int BAD = -1, STATE = -2, FULL = -3, NONE = -9, NO = -1000000;

    /** What an image keeps. */
    private static final class State {
        Integer[] sown = {};
        Integer[] opposes = {};
        Integer[] ropes = {};
        Boolean[] mule = {};
        Integer[] stored = {};
        boolean rain;
        int years;

        State copy() {
            State s = new State();
            s.sown = sown.clone();
            s.opposes = opposes.clone();
            s.ropes = ropes.clone();
            s.mule = mule.clone();
            s.stored = stored.clone();
            s.rain = rain;
            s.years = years;
            return s;
        }
    }

    private record Crop(int weight, int worth) { }

    private record Man(int strong, int legs, int needs, List<Integer> yields) { }

    private record Token(String word, int place) { }

    private record Stubble(int man, int sheaves) { }

    private final StringBuilder text = new StringBuilder();
    private List<Crop> crops = new ArrayList<>();
    private List<Man> men = new ArrayList<>();
    private State s = new State();
    private Deque<State> undoable = new ArrayDeque<>();
    private State[] images = new State[2];
    private List<Stubble> stubbles = new ArrayList<>();
    private long trace;

    int type(int letter) {
        if (letter < 0 || letter > 255) return BAD;
        if (text.length() == 200) return FULL;
        text.append((char) letter);
        return text.length();
    }

    int clear() {
        int n = text.length();
        text.setLength(0);
        return n;
    }

    private static boolean digit(char c) {
        return "0123456789".indexOf(c) >= 0;
    }

    private static List<Token> tokens(String t) {
        List<Token> all = new ArrayList<>();
        int i = 0;
        while (i < t.length()) {
            int j = i + 1;
            if (digit(t.charAt(i))) {
                while (j < t.length() && digit(t.charAt(j))) j++;
            }
            if (t.charAt(i) != ' ') all.add(new Token(t.substring(i, j), i));
            i = j;
        }
        return all;
    }

    /** Whether a word is a number as numbers must be, from least to most. */
    private static boolean number(String word, int least, int most) {
        return word.matches("0|[1-9][0-9]?") && Integer.parseInt(word) >= least && Integer.parseInt(word) <= most;
    }

    int valley() {
        List<Crop> newCrops = new ArrayList<>();
        List<Man> newMen = new ArrayList<>();
        List<Integer> numbers = new ArrayList<>();
        char item = 0;
        for (Token t : tokens(text.toString())) {
            String w = t.word();
            boolean fits;
            if (item == 0) {
                fits = w.equals("c") && newMen.isEmpty() && newCrops.size() < 3
                        || w.equals("m") && !newCrops.isEmpty() && newMen.size() < 6;
                item = w.charAt(0);
                numbers = new ArrayList<>();
            } else {
                int[] least = item == 'c' ? new int[] {1, 1} : new int[] {1, 0, 0, 0, 0, 0};
                int[] most = item == 'c' ? new int[] {9, 9} : new int[] {20, 9, 99, 40, 40, 40};
                int due = item == 'c' ? 2 : 3 + newCrops.size();
                int k = numbers.size();
                if (k < due) {
                    fits = number(w, least[k], most[k]);
                    if (fits) numbers.add(Integer.parseInt(w));
                } else {
                    fits = w.equals(";");
                    if (fits && item == 'c') newCrops.add(new Crop(numbers.get(0), numbers.get(1)));
                    if (fits && item == 'm') {
                        newMen.add(new Man(numbers.get(0), numbers.get(1), numbers.get(2), numbers.subList(3, due)));
                    }
                    item = 0;
                }
            }
            if (!fits) return -10 - t.place();
        }
        if (item != 0) return -10 - text.length();
        crops = newCrops;
        men = newMen;
        text.setLength(0);
        int n = men.size();
        s = new State();
        s.sown = filled(n, 0);
        s.opposes = filled(n, NONE);
        s.ropes = filled(n, 0);
        s.stored = filled(n, 0);
        s.mule = new Boolean[n];
        Arrays.fill(s.mule, false);
        for (int m = 0; m + 1 < n; m += 2) {
            s.opposes[m] = m + 1;
            s.opposes[m + 1] = m;
        }
        undoable = new ArrayDeque<>();
        images = new State[2];
        stubbles = new ArrayList<>();
        return crops.size() + n;
    }

    private static Integer[] filled(int n, int with) {
        Integer[] a = new Integer[n];
        Arrays.fill(a, with);
        return a;
    }

    private boolean man(int m) {
        return m >= 0 && m < men.size();
    }

    private boolean crop(int c) {
        return c >= 0 && c < crops.size();
    }

    int man(int m, int what) {
        if (!man(m) || what < 0 || what > 6) return BAD;
        Man h = men.get(m);
        return List.of(h.strong(), h.legs(), h.needs(), s.sown[m], s.opposes[m], s.ropes[m], s.mule[m] ? 1 : 0).get(what);
    }

    int yieldOf(int m, int crop) {
        return man(m) && crop(crop) ? men.get(m).yields().get(crop) : BAD;
    }

    private int carries(State s, int m, int crop) {
        int weight = crops.get(crop).weight();
        if (s.rain) weight++;
        int lift = 0;
        int strength = men.get(m).strong() + 3 * s.ropes[m];
        while ((lift + 1) * weight <= strength) lift++;
        int crossings = men.get(m).legs();
        if (s.mule[m]) crossings += crossings;
        return crossings * lift;
    }

    int carries(int m, int crop) {
        return man(m) && crop(crop) ? carries(s, m, crop) : BAD;
    }

    private int takes(State s, int m) {
        if (s.opposes[m] == NONE) return 0;
        int o = s.opposes[m];
        int crop = s.sown[o];
        return Math.min(carries(s, m, crop), men.get(o).yields().get(crop));
    }

    private int kept(State s, int m) {
        int grown = men.get(m).yields().get(s.sown[m]);
        return s.opposes[m] == NONE ? grown : grown - takes(s, s.opposes[m]);
    }

    private int worthOfTaken(State s, int m) {
        return s.opposes[m] == NONE ? 0 : takes(s, m) * crops.get(s.sown[s.opposes[m]]).worth();
    }

    private int has(State s, int m) {
        return worthOfTaken(s, m) + kept(s, m) * crops.get(s.sown[m]).worth();
    }

    private int less(State s, int m) {
        return has(s, m) - men.get(m).needs();
    }

    int has(int m, int what) {
        if (!man(m) || what < 0 || what > 3) return NO;
        return new int[] {takes(s, m), kept(s, m), has(s, m), s.stored[m]}[what];
    }

    int now(int what) {
        int ropes = 0, hungry = 0, all = 0;
        for (int m = 0; m < men.size(); m++) {
            ropes += s.ropes[m];
            hungry += hungry(m) << m;
            all += has(s, m);
        }
        int[] answers = {s.years, s.rain ? 1 : 0, ropes, hungry, all, undoable.size()};
        return what < 0 || what > 5 ? BAD : answers[what];
    }

    private void known() {
        undoable.push(s.copy());
        if (undoable.size() > 10) undoable.removeLast();
    }

    int sows(int m, int crop) {
        if (!man(m) || !crop(crop)) return BAD;
        known();
        int was = s.sown[m];
        s.sown[m] = crop;
        return was;
    }

    int rains(int is) {
        if (is != 0 && is != 1) return BAD;
        known();
        int was = s.rain ? 1 : 0;
        s.rain = is == 1;
        return was;
    }

    int ropes(int m, int n) {
        if (!man(m) || n < 0 || n > 3) return BAD;
        known();
        int was = s.ropes[m];
        s.ropes[m] = n;
        return was;
    }

    int mules(int m, int is) {
        if (!man(m) || is != 0 && is != 1) return BAD;
        known();
        int was = s.mule[m] ? 1 : 0;
        s.mule[m] = is == 1;
        return was;
    }

    int marries(int a, int b) {
        if (!man(a) || !man(b) || a == b) return BAD;
        known();
        if (s.opposes[a] != b) {
            // Everybody's a is a b then, and the other way round, but for the two themselves.
            Integer[] then = s.opposes.clone();
            then[a] = s.opposes[b];
            then[b] = s.opposes[a];
            for (int m = 0; m < men.size(); m++) {
                if (s.opposes[m] == a) then[m] = b;
                if (s.opposes[m] == b) then[m] = a;
            }
            s.opposes = then;
        }
        return s.opposes[a];
    }

    private static int bounded(int stored) {
        return stored > 9999 ? 9999 : stored < -9999 ? -9999 : stored;
    }

    private void goBy(State s) {
        for (int m = 0; m < men.size(); m++) s.stored[m] = bounded(s.stored[m] + less(s, m));
        s.years++;
    }

    int year() {
        if (s.years == 999) return STATE;
        known();
        int had = 0;
        for (int m = 0; m < men.size(); m++) if (has(s, m) >= men.get(m).needs()) had++;
        goBy(s);
        return had;
    }

    int undo() {
        if (undoable.isEmpty()) return STATE;
        s = undoable.pop();
        return undoable.size();
    }

    int best(int m, int c, int what) {
        if (!man(m) || c < 0 || c > 999 || what != 0 && what != 1) return BAD;
        List<int[]> may = new ArrayList<>();
        for (int k = 0; k < crops.size(); k++) {
            State t = s.copy();
            t.sown[m] = k;
            if (t.opposes[m] == NONE || worthOfTaken(t, t.opposes[m]) >= c) may.add(new int[] {k, has(t, m)});
        }
        if (may.isEmpty()) return NONE;
        int most = may.stream().mapToInt(p -> p[1]).max().getAsInt();
        int first = may.stream().filter(p -> p[1] == most).findFirst().get()[0];
        return what == 0 ? first : most;
    }

    private State sowing(int m, int his, int o, int others) {
        State t = s.copy();
        t.sown[m] = his;
        t.sown[o] = others;
        return t;
    }

    int rest(int m, int what) {
        if (!man(m) || what != 0 && what != 1) return BAD;
        if (s.opposes[m] == NONE) return STATE;
        int o = s.opposes[m];
        List<Integer> found = new ArrayList<>();
        for (int a = 0; a < crops.size(); a++) {
            for (int b = 0; b < crops.size(); b++) {
                boolean stays = true;
                for (int k = 0; k < crops.size(); k++) {
                    stays &= has(sowing(m, k, o, b), m) <= has(sowing(m, a, o, b), m);
                    stays &= has(sowing(m, a, o, k), o) <= has(sowing(m, a, o, b), o);
                }
                if (stays) found.add(10 * a + b);
            }
        }
        return what == 0 ? found.size() : found.isEmpty() ? NONE : found.get(0);
    }

    int hungry(int m) {
        if (!man(m)) return BAD;
        for (int a = 0; a < crops.size(); a++) {
            for (int b = 0; b < crops.size(); b++) {
                State t = s.copy();
                t.sown[m] = a;
                if (s.opposes[m] != NONE) t.sown[s.opposes[m]] = b;
                if (less(t, m) >= 0) return 0;
            }
        }
        return 1;
    }

    private static final List<List<Integer[]>> WAYS = new ArrayList<>();

    /** All rows of whom each opposes, in their order, of which those that are ways are left. */
    private static List<Integer[]> ways(int n) {
        while (WAYS.size() <= n) {
            int k = WAYS.size();
            List<Integer[]> all = new ArrayList<>();
            int rows = 1;
            for (int i = 0; i < k; i++) rows *= k + 1;
            for (int r = 0; r < rows; r++) {
                Integer[] way = new Integer[k];
                int rest = r;
                for (int i = k - 1; i >= 0; i--) {
                    way[i] = rest % (k + 1) == 0 ? NONE : rest % (k + 1) - 1;
                    rest /= k + 1;
                }
                if (isWay(way)) all.add(way);
            }
            WAYS.add(all);
        }
        return WAYS.get(n);
    }

    private static boolean isWay(Integer[] way) {
        int alone = 0;
        for (int i = 0; i < way.length; i++) {
            if (way[i] == NONE) alone++;
            else if (way[i] == i || way[way[i]] != i) return false;
        }
        return alone == way.length % 2;
    }

    int faces(int m) {
        if (men.isEmpty() || m != -1 && !man(m)) return NO;
        Integer[] best = null;
        int greatest = Integer.MIN_VALUE;
        for (Integer[] way : ways(men.size())) {
            State t = s.copy();
            t.opposes = way;
            int least = Integer.MAX_VALUE;
            for (int i = 0; i < men.size(); i++) least = Math.min(least, less(t, i));
            if (least > greatest) {
                greatest = least;
                best = way;
            }
        }
        return m == -1 ? greatest : best[m];
    }

    int needed(int m) {
        if (m != -1 && !man(m)) return BAD;
        int n = men.size();
        Integer[] best = null;
        int fewest = 1000;
        for (int way = 0; way < 1 << 2 * n; way++) {
            State t = s.copy();
            int sum = 0;
            for (int i = 0; i < n; i++) {
                t.ropes[i] = way >> 2 * (n - 1 - i) & 3;
                sum += t.ropes[i];
            }
            boolean all = sum < fewest;
            for (int i = 0; i < n && all; i++) all = less(t, i) >= 0;
            if (all) {
                fewest = sum;
                best = t.ropes;
            }
        }
        return best == null ? NONE : m == -1 ? fewest : best[m];
    }

    int stubble(int m, int n) {
        if (!man(m) || n < 0 || n > 180) return BAD;
        if (stubbles.size() == 5) return FULL;
        stubbles.add(new Stubble(m, n));
        return stubbles.size();
    }

    int forget() {
        int n = stubbles.size();
        stubbles.clear();
        return n;
    }

    int cut(int m) {
        if (!man(m)) return BAD;
        if (s.opposes[m] == NONE) return 0;
        int bits = 0;
        for (int k = 0; k < crops.size(); k++) {
            State t = s.copy();
            t.sown[s.opposes[m]] = k;
            int takes = takes(t, m);
            if (stubbles.stream().allMatch(told -> told.man() != m || told.sheaves() == takes)) bits += 1 << k;
        }
        return bits;
    }

    private long chances(State at, int x, int n, int m, int v) {
        if (n == 0) return at.stored[m] >= v ? 1 : 0;
        State wet = at.copy();
        wet.rain = true;
        goBy(wet);
        State dry = at.copy();
        dry.rain = false;
        goBy(dry);
        return x * chances(wet, x, n - 1, m, v) + (10 - x) * chances(dry, x, n - 1, m, v);
    }

    private static int term(BigInteger upper, BigInteger lower, int what) {
        BigInteger by = upper.gcd(lower);
        return (what == 0 ? upper : lower).divide(by).intValueExact();
    }

    int odds(int x, int n, int m, int v, int what) {
        if (x < 0 || x > 10 || n < 0 || n > 6 || !man(m) || v < -9999 || v > 9999 || what != 0 && what != 1) return BAD;
        return term(BigInteger.valueOf(chances(s, x, n, m, v)), BigInteger.TEN.pow(n), what);
    }

    int rich(int m, int v) {
        if (!man(m) || v < -9999 || v > 9999) return BAD;
        State t = s.copy();
        for (int years = 0; years <= 400; years++) {
            if (t.stored[m] >= v) return years;
            goBy(t);
        }
        return NONE;
    }

    int poor() {
        State t = s.copy();
        for (int years = 0; years <= 400; years++) {
            for (int stored : t.stored) if (stored < 0) return years;
            goBy(t);
        }
        return NONE;
    }

    int share(int m, int what) {
        if (!man(m) || what != 0 && what != 1) return BAD;
        int all = now(4);
        return all == 0 ? what : term(BigInteger.valueOf(has(s, m)), BigInteger.valueOf(all), what);
    }

    int rate(int kind, int m) {
        if (!man(m) || kind < 0 || kind > 5) return NO;
        int[] above = {-1, 0, 0, 1, 2, 0};
        long[] adds = {1, 10, 100, 1000, 10000, 100000};
        trace += adds[kind];
        int up = above[kind] < 0 ? 0 : rate(above[kind], m);
        int[] rates = {has(s, m), up + men.get(m).strong(), up - men.get(m).needs(), up * 2, up + m, up + s.years};
        return rates[kind];
    }

    int keep(int image) {
        if (image != 0 && image != 1) return BAD;
        images[image] = s.copy();
        return s.years;
    }

    int back(int image) {
        if (image != 0 && image != 1) return BAD;
        if (images[image] == null) return STATE;
        s = images[image].copy();
        undoable.clear();
        return s.years;
    }

    int count(int what) {
        int[] answers = {crops.size(), men.size(), stubbles.size(), text.length()};
        return what < 0 || what > 3 ? BAD : answers[what];
    }

    long trace() {
        return trace;
    }
}
