/**
 * A valley where each man reaps the field over against his own and has from it what he can carry
 * home by dark; the rest is its owner's.
 *
 * <p>All rows are made in the constructor and used again: no call makes an object.
 */
public final class FacingFields {
    public static final int BAD = -1, STATE = -2, FULL = -3, NONE = -9;
    public static final int NO = -1000000;

    private static final int LETTERS_MOST = 200;
    private static final int CROPS_MOST = 3;
    private static final int MEN_MOST = 6;
    private static final int ROPES_MOST = 3;
    private static final int LIFT_BY_ROPE = 3;
    private static final int STORED_MOST = 9999;
    private static final int YEARS_MOST = 999;
    private static final int UNDONE_MOST = 10;
    private static final int ASKED_MOST = 999;
    private static final int STUBBLE_MOST = 5;
    private static final int SHEAVES_MOST = 180;
    private static final int TENTHS = 10;
    private static final int ODDS_YEARS_MOST = 6;
    private static final int YEARS_AHEAD = 400;
    private static final int IMAGES = 2;
    /** Euclid's steps for numbers below 2^31 are fewer than 50. */
    private static final int GCD_STEPS = 64;
    /** Beside NONE: a man for whom nothing is chosen yet, while ways to face are tried. */
    private static final int UNCHOSEN = -10;
    /** What a text with a fault in it answers, less the fault's place. */
    private static final int FAULTY = -10;

    private static final int ENDED = 0, CROP = 1, MAN = 2, NUMBER = 3, STOP = 4, WRONG = 5;
    private static final int NUMBER_MOST = 99;
    private static final int WEIGHT_MOST = 9, WORTH_MOST = 9;
    private static final int STRONG_MOST = 20, LEGS_MOST = 9, NEEDS_MOST = 99, YIELD_MOST = 40;

    private final Text text = new Text();
    private Told told = new Told();
    /** A text is read into this one, so that a fault leaves the other as it was. */
    private Told spare = new Told();
    private final Moment present = new Moment();
    /** What-ifs are played here; it holds nothing between calls. */
    private final Moment trial = new Moment();
    private final Log log = new Log();
    private final Moment[] images = new Moment[IMAGES];
    private final boolean[] imageKept = new boolean[IMAGES];
    private final int[] stubbleMan = new int[STUBBLE_MOST];
    private final int[] stubbleSheaves = new int[STUBBLE_MOST];
    private int stubbles;
    private final int[] bestFacing = new int[MEN_MOST];
    private int bestLeast;
    private boolean bestFound;
    private long traced;

    public FacingFields() {
        present.begin(0);
        for (int i = 0; i < IMAGES; i++) {
            images[i] = new Moment();
        }
    }

    // ---- the valley

    public int type(int letter) {
        if (letter < 0 || letter > 255) {
            return BAD;
        }
        if (text.length >= LETTERS_MOST) {
            return FULL;
        }
        text.letters[text.length] = letter;
        text.length++;
        return text.length;
    }

    public int clear() {
        int had = text.length;
        text.length = 0;
        return had;
    }

    public int valley() {
        int items = text.readInto(spare);
        if (items < 0) {
            return items;
        }
        Told old = told;
        told = spare;
        spare = old;
        text.length = 0;
        present.begin(told.men);
        log.held = 0;
        stubbles = 0;
        for (int i = 0; i < IMAGES; i++) {
            imageKept[i] = false;
        }
        return items;
    }

    public int man(int m, int what) {
        if (!isMan(m)) {
            return BAD;
        }
        switch (what) {
            case 0: return told.strong[m];
            case 1: return told.legs[m];
            case 2: return told.needs[m];
            case 3: return present.sown[m];
            case 4: return present.facing[m];
            case 5: return present.ropes[m];
            case 6: return present.mules[m];
            default: return BAD;
        }
    }

    public int yieldOf(int m, int crop) {
        if (!isMan(m) || !isCrop(crop)) {
            return BAD;
        }
        return told.yields[m][crop];
    }

    public int carries(int m, int crop) {
        if (!isMan(m) || !isCrop(crop)) {
            return BAD;
        }
        return carriedBy(present, m, crop);
    }

    public int has(int m, int what) {
        if (!isMan(m)) {
            return NO;
        }
        switch (what) {
            case 0: return takenBy(present, m);
            case 1: return keptBy(present, m);
            case 2: return wealthOf(present, m);
            case 3: return present.stored[m];
            default: return NO;
        }
    }

    public int now(int what) {
        switch (what) {
            case 0: return present.years;
            case 1: return present.rain;
            case 2: return ropesOfAll();
            case 3: return hungryBits();
            case 4: return wealthOfAll();
            case 5: return log.held;
            default: return BAD;
        }
    }

    // ---- what is done

    public int sows(int m, int crop) {
        if (!isMan(m) || !isCrop(crop)) {
            return BAD;
        }
        log.add(present);
        int was = present.sown[m];
        present.sown[m] = crop;
        return was;
    }

    public int rains(int is) {
        if (!isBelow(is, 2)) {
            return BAD;
        }
        log.add(present);
        int was = present.rain;
        present.rain = is;
        return was;
    }

    public int ropes(int m, int n) {
        if (!isMan(m) || n < 0 || n > ROPES_MOST) {
            return BAD;
        }
        log.add(present);
        int was = present.ropes[m];
        present.ropes[m] = n;
        return was;
    }

    public int mules(int m, int is) {
        if (!isMan(m) || !isBelow(is, 2)) {
            return BAD;
        }
        log.add(present);
        int was = present.mules[m];
        present.mules[m] = is;
        return was;
    }

    public int marries(int a, int b) {
        if (!isMan(a) || !isMan(b) || a == b) {
            return BAD;
        }
        log.add(present);
        exchange(a, b);
        return present.facing[a];
    }

    public int year() {
        if (present.years >= YEARS_MOST) {
            return STATE;
        }
        log.add(present);
        int fed = 0;
        for (int m = 0; m < told.men; m++) {
            int gain = gainOf(present, m);
            if (gain >= 0) {
                fed++;
            }
            present.stored[m] = storedBehind(present.stored[m], gain);
        }
        present.years++;
        return fed;
    }

    public int undo() {
        if (log.held == 0) {
            return STATE;
        }
        log.takeLatest(present);
        return log.held;
    }

    // ---- what to sow

    public int best(int m, int c, int what) {
        if (!isMan(m) || c < 0 || c > ASKED_MOST || !isBelow(what, 2)) {
            return BAD;
        }
        int other = present.facing[m];
        int bestCrop = NONE;
        int most = NONE;
        trial.copyFrom(present);
        for (int crop = 0; crop < told.crops; crop++) {
            trial.sown[m] = crop;
            boolean comes = other < 0 || takenBy(trial, other) * told.worth[crop] >= c;
            int wealth = wealthOf(trial, m);
            if (comes && (bestCrop == NONE || wealth > most)) {
                bestCrop = crop;
                most = wealth;
            }
        }
        return what == 0 ? bestCrop : most;
    }

    public int rest(int m, int what) {
        if (!isMan(m) || !isBelow(what, 2)) {
            return BAD;
        }
        int other = present.facing[m];
        if (other < 0) {
            return STATE;
        }
        int rests = 0;
        int first = NONE;
        trial.copyFrom(present);
        for (int his = 0; his < told.crops; his++) {
            for (int others = 0; others < told.crops; others++) {
                trial.sown[m] = his;
                trial.sown[other] = others;
                if (isContent(m) && isContent(other)) {
                    first = rests == 0 ? 10 * his + others : first;
                    rests++;
                }
            }
        }
        return what == 0 ? rests : first;
    }

    public int hungry(int m) {
        if (!isMan(m)) {
            return BAD;
        }
        return isHungry(m) ? 1 : 0;
    }

    // ---- who faces whom, ropes

    public int faces(int m) {
        if (told.men == 0 || (m != -1 && !isMan(m))) {
            return NO;
        }
        trial.copyFrom(present);
        for (int i = 0; i < told.men; i++) {
            trial.facing[i] = UNCHOSEN;
        }
        bestFound = false;
        tryFacing(0, told.men % 2 == 1);
        return m == -1 ? bestLeast : bestFacing[m];
    }

    public int needed(int m) {
        if (m != -1 && !isMan(m)) {
            return BAD;
        }
        int fewest = tryRopes();
        if (fewest == NONE || m == -1) {
            return fewest;
        }
        return trial.ropes[m];
    }

    // ---- stubble

    public int stubble(int m, int n) {
        if (!isMan(m) || n < 0 || n > SHEAVES_MOST) {
            return BAD;
        }
        if (stubbles >= STUBBLE_MOST) {
            return FULL;
        }
        stubbleMan[stubbles] = m;
        stubbleSheaves[stubbles] = n;
        stubbles++;
        return stubbles;
    }

    public int forget() {
        int had = stubbles;
        stubbles = 0;
        return had;
    }

    public int cut(int m) {
        if (!isMan(m)) {
            return BAD;
        }
        if (present.facing[m] < 0) {
            return 0;
        }
        int bits = 0;
        for (int crop = 0; crop < told.crops; crop++) {
            if (fitsStubble(m, takenIf(present, m, crop))) {
                bits |= 1 << crop;
            }
        }
        return bits;
    }

    // ---- years, odds

    public int odds(int x, int n, int m, int v, int what) {
        if (x < 0 || x > TENTHS || n < 0 || n > ODDS_YEARS_MOST || !isMan(m)) {
            return BAD;
        }
        if (!isStorable(v) || !isBelow(what, 2)) {
            return BAD;
        }
        int lower = 1;
        for (int i = 0; i < n; i++) {
            lower *= TENTHS;
        }
        return inLeastTerms(chancesOf(x, n, m, v), lower, what);
    }

    public int rich(int m, int v) {
        if (!isMan(m) || !isStorable(v)) {
            return BAD;
        }
        int gain = gainOf(present, m);
        int stored = present.stored[m];
        for (int years = 0; years <= YEARS_AHEAD; years++) {
            if (stored >= v) {
                return years;
            }
            stored = storedBehind(stored, gain);
        }
        return NONE;
    }

    public int poor() {
        int soonest = NONE;
        for (int m = 0; m < told.men; m++) {
            int years = yearsTillPoor(m);
            if (years != NONE && (soonest == NONE || years < soonest)) {
                soonest = years;
            }
        }
        return soonest;
    }

    public int share(int m, int what) {
        if (!isMan(m) || !isBelow(what, 2)) {
            return BAD;
        }
        return inLeastTerms(wealthOf(present, m), wealthOfAll(), what);
    }

    // ---- kinds, images

    public int rate(int kind, int m) {
        if (!isMan(m)) {
            return NO;
        }
        switch (kind) {
            case 0: return rateMan(m);
            case 1: return rateGiant(m);
            case 2: return rateWidow(m);
            case 3: return rateBrother(m);
            case 4: return rateGleaner(m);
            case 5: return rateGuest(m);
            default: return NO;
        }
    }

    public int keep(int image) {
        if (!isBelow(image, IMAGES)) {
            return BAD;
        }
        images[image].copyFrom(present);
        imageKept[image] = true;
        return present.years;
    }

    public int back(int image) {
        if (!isBelow(image, IMAGES)) {
            return BAD;
        }
        if (!imageKept[image]) {
            return STATE;
        }
        present.copyFrom(images[image]);
        log.held = 0;
        return present.years;
    }

    public int count(int what) {
        switch (what) {
            case 0: return told.crops;
            case 1: return told.men;
            case 2: return stubbles;
            case 3: return text.length;
            default: return BAD;
        }
    }

    public long trace() {
        return traced;
    }

    // ---- what may be asked

    private boolean isMan(int m) {
        return isBelow(m, told.men);
    }

    private boolean isCrop(int crop) {
        return isBelow(crop, told.crops);
    }

    private static boolean isBelow(int number, int bound) {
        return number >= 0 && number < bound;
    }

    private static boolean isStorable(int v) {
        return v >= -STORED_MOST && v <= STORED_MOST;
    }

    // ---- what each has in a moment, the present one or a trial

    private int carriedBy(Moment at, int m, int crop) {
        int load = told.weight[crop] + at.rain;
        if (load < 1) {
            return 0;
        }
        int crossings = at.mules[m] == 1 ? 2 * told.legs[m] : told.legs[m];
        int strength = told.strong[m] + LIFT_BY_ROPE * at.ropes[m];
        return crossings * (strength / load);
    }

    /** What a man takes if this crop were the one sown over against him. */
    private int takenIf(Moment at, int m, int crop) {
        int other = at.facing[m];
        if (other < 0) {
            return 0;
        }
        return Math.min(carriedBy(at, m, crop), told.yields[other][crop]);
    }

    private int takenBy(Moment at, int m) {
        int other = at.facing[m];
        return other < 0 ? 0 : takenIf(at, m, at.sown[other]);
    }

    private int keptBy(Moment at, int m) {
        int other = at.facing[m];
        int grown = told.yields[m][at.sown[m]];
        return other < 0 ? grown : grown - takenIf(at, other, at.sown[m]);
    }

    private int wealthOf(Moment at, int m) {
        int other = at.facing[m];
        int his = at.sown[m];
        if (other < 0) {
            return told.yields[m][his] * told.worth[his];
        }
        int others = at.sown[other];
        int kept = told.yields[m][his] - takenIf(at, other, his);
        return kept * told.worth[his] + takenIf(at, m, others) * told.worth[others];
    }

    private int gainOf(Moment at, int m) {
        return wealthOf(at, m) - told.needs[m];
    }

    private int wealthOfAll() {
        int all = 0;
        for (int m = 0; m < told.men; m++) {
            all += wealthOf(present, m);
        }
        return all;
    }

    private int ropesOfAll() {
        int all = 0;
        for (int m = 0; m < told.men; m++) {
            all += present.ropes[m];
        }
        return all;
    }

    private void exchange(int a, int b) {
        int overA = present.facing[a];
        int overB = present.facing[b];
        if (overA == b) {
            return;
        }
        present.facing[a] = overB;
        present.facing[b] = overA;
        if (overB >= 0) {
            present.facing[overB] = a;
        }
        if (overA >= 0) {
            present.facing[overA] = b;
        }
    }

    // ---- sowings

    /** The most that a man has in the trial by any sowing of his own, all others' being as there. */
    private int mostBySowing(int m) {
        int sown = trial.sown[m];
        int most = 0;
        for (int crop = 0; crop < told.crops; crop++) {
            trial.sown[m] = crop;
            most = Math.max(most, wealthOf(trial, m));
        }
        trial.sown[m] = sown;
        return most;
    }

    private boolean isContent(int m) {
        return wealthOf(trial, m) >= mostBySowing(m);
    }

    private boolean isHungry(int m) {
        trial.copyFrom(present);
        int other = trial.facing[m];
        if (other < 0) {
            return mostBySowing(m) < told.needs[m];
        }
        for (int crop = 0; crop < told.crops; crop++) {
            trial.sown[other] = crop;
            if (mostBySowing(m) >= told.needs[m]) {
                return false;
            }
        }
        return true;
    }

    private int hungryBits() {
        int bits = 0;
        for (int m = 0; m < told.men; m++) {
            if (isHungry(m)) {
                bits |= 1 << m;
            }
        }
        return bits;
    }

    // ---- who faces whom

    /** The ways come in their order, so a later one must be better, not just as good. */
    private void tryFacing(int depth, boolean oneAlone) {
        int m = firstUnchosen();
        if (m < 0) {
            weighFacing();
            return;
        }
        if (depth >= MEN_MOST) {
            return;
        }
        if (oneAlone) {
            trial.facing[m] = NONE;
            tryFacing(depth + 1, false);
        }
        for (int other = m + 1; other < told.men; other++) {
            if (trial.facing[other] == UNCHOSEN) {
                trial.facing[m] = other;
                trial.facing[other] = m;
                tryFacing(depth + 1, oneAlone);
                trial.facing[other] = UNCHOSEN;
            }
        }
        trial.facing[m] = UNCHOSEN;
    }

    private int firstUnchosen() {
        for (int m = 0; m < told.men; m++) {
            if (trial.facing[m] == UNCHOSEN) {
                return m;
            }
        }
        return NONE;
    }

    private void weighFacing() {
        int least = gainOf(trial, 0);
        for (int m = 1; m < told.men; m++) {
            least = Math.min(least, gainOf(trial, m));
        }
        if (!bestFound || least > bestLeast) {
            bestFound = true;
            bestLeast = least;
            System.arraycopy(trial.facing, 0, bestFacing, 0, told.men);
        }
    }

    // ---- ropes

    /**
     * Leaves the first of the ways with fewest ropes in the trial. What two men over against one
     * another have hangs on no other man's ropes, so that the fewest for each two, the first of
     * them, together are the fewest for all, and the first of them.
     */
    private int tryRopes() {
        trial.copyFrom(present);
        int all = 0;
        for (int m = 0; m < told.men; m++) {
            int other = trial.facing[m];
            if (other >= 0 && other < m) {
                continue;
            }
            int fewest = other < 0 ? ropesAlone(m) : ropesOfTwo(m, other);
            if (fewest == NONE) {
                return NONE;
            }
            all += fewest;
        }
        return all;
    }

    /** One who opposes nobody carries nothing, so that ropes are nothing to him. */
    private int ropesAlone(int m) {
        trial.ropes[m] = 0;
        return gainOf(trial, m) >= 0 ? 0 : NONE;
    }

    private int ropesOfTwo(int m, int other) {
        int fewest = NONE;
        int his = 0;
        for (int a = 0; a <= ROPES_MOST; a++) {
            for (int b = 0; b <= ROPES_MOST; b++) {
                trial.ropes[m] = a;
                trial.ropes[other] = b;
                boolean fed = gainOf(trial, m) >= 0 && gainOf(trial, other) >= 0;
                if (fed && (fewest == NONE || a + b < fewest)) {
                    fewest = a + b;
                    his = a;
                }
            }
        }
        if (fewest != NONE) {
            trial.ropes[m] = his;
            trial.ropes[other] = fewest - his;
        }
        return fewest;
    }

    private boolean fitsStubble(int m, int sheaves) {
        for (int i = 0; i < stubbles; i++) {
            if (stubbleMan[i] == m && stubbleSheaves[i] != sheaves) {
                return false;
            }
        }
        return true;
    }

    // ---- years

    private static int storedBehind(int stored, int gain) {
        return Math.max(-STORED_MOST, Math.min(STORED_MOST, stored + gain));
    }

    private int yearsTillPoor(int m) {
        int gain = gainOf(present, m);
        int stored = present.stored[m];
        for (int years = 0; years <= YEARS_AHEAD; years++) {
            if (stored < 0) {
                return years;
            }
            stored = storedBehind(stored, gain);
        }
        return NONE;
    }

    /**
     * Of 10 to the n: how many speak for v. Each row of rainy and dry years is gone through by
     * itself, as what is stored has bounds, so that the order of the years may matter.
     */
    private int chancesOf(int x, int n, int m, int v) {
        trial.copyFrom(present);
        trial.rain = 0;
        int dryGain = gainOf(trial, m);
        trial.rain = 1;
        int wetGain = gainOf(trial, m);
        int chances = 0;
        for (int row = 0; row < 1 << n; row++) {
            int chance = 1;
            int stored = present.stored[m];
            for (int i = 0; i < n; i++) {
                boolean wet = (row >> i & 1) == 1;
                chance *= wet ? x : TENTHS - x;
                stored = storedBehind(stored, wet ? wetGain : dryGain);
            }
            if (stored >= v) {
                chances += chance;
            }
        }
        return chances;
    }

    /** The upper (0) or lower (1) number of a fraction; 0 by 1, if its lower number is 0. */
    private static int inLeastTerms(int upper, int lower, int what) {
        int a = lower;
        int b = upper;
        for (int i = 0; i < GCD_STEPS && b != 0; i++) {
            int left = a % b;
            a = b;
            b = left;
        }
        if (a == 0) {
            return what;
        }
        return what == 0 ? upper / a : lower / a;
    }

    // ---- kinds: each body adds its number to the trace and asks the one above once

    private int rateMan(int m) {
        traced += 1;
        return wealthOf(present, m);
    }

    private int rateGiant(int m) {
        traced += 10;
        return rateMan(m) + told.strong[m];
    }

    private int rateWidow(int m) {
        traced += 100;
        return rateMan(m) - told.needs[m];
    }

    private int rateBrother(int m) {
        traced += 1000;
        return 2 * rateGiant(m);
    }

    private int rateGleaner(int m) {
        traced += 10000;
        return rateWidow(m) + m;
    }

    private int rateGuest(int m) {
        traced += 100000;
        return rateMan(m) + present.years;
    }

    /** Crops and men as a text tells them. */
    private static final class Told {
        int crops;
        final int[] weight = new int[CROPS_MOST];
        final int[] worth = new int[CROPS_MOST];
        int men;
        final int[] strong = new int[MEN_MOST];
        final int[] legs = new int[MEN_MOST];
        final int[] needs = new int[MEN_MOST];
        final int[][] yields = new int[MEN_MOST][CROPS_MOST];
    }

    /** What changes without a new text: an image keeps this, and undoing brings it back. */
    private static final class Moment {
        final int[] sown = new int[MEN_MOST];
        final int[] facing = new int[MEN_MOST];
        final int[] ropes = new int[MEN_MOST];
        final int[] mules = new int[MEN_MOST];
        final int[] stored = new int[MEN_MOST];
        int rain;
        int years;

        void begin(int men) {
            for (int m = 0; m < MEN_MOST; m++) {
                int other = m % 2 == 0 ? m + 1 : m - 1;
                facing[m] = m < men && other < men ? other : NONE;
                sown[m] = 0;
                ropes[m] = 0;
                mules[m] = 0;
                stored[m] = 0;
            }
            rain = 0;
            years = 0;
        }

        void copyFrom(Moment from) {
            System.arraycopy(from.sown, 0, sown, 0, MEN_MOST);
            System.arraycopy(from.facing, 0, facing, 0, MEN_MOST);
            System.arraycopy(from.ropes, 0, ropes, 0, MEN_MOST);
            System.arraycopy(from.mules, 0, mules, 0, MEN_MOST);
            System.arraycopy(from.stored, 0, stored, 0, MEN_MOST);
            rain = from.rain;
            years = from.years;
        }
    }

    /** The moments ahead of the latest deeds, in a ring: a new one takes the oldest one's place. */
    private static final class Log {
        private final Moment[] ring = new Moment[UNDONE_MOST];
        private int next;
        int held;

        Log() {
            for (int i = 0; i < UNDONE_MOST; i++) {
                ring[i] = new Moment();
            }
        }

        void add(Moment moment) {
            ring[next].copyFrom(moment);
            next = (next + 1) % UNDONE_MOST;
            held = Math.min(held + 1, UNDONE_MOST);
        }

        void takeLatest(Moment into) {
            if (held == 0) {
                return;
            }
            next = (next + UNDONE_MOST - 1) % UNDONE_MOST;
            held--;
            into.copyFrom(ring[next]);
        }
    }

    /** THE TEXT, and how it is read. */
    private static final class Text {
        final int[] letters = new int[LETTERS_MOST];
        int length;
        /** The place of the latest token's first letter, and the place behind that token. */
        private int start;
        private int behind;
        private int number;

        /** How many items, or FAULTY less the fault's place, which is where the latest token starts. */
        int readInto(Told into) {
            into.crops = 0;
            into.men = 0;
            behind = 0;
            int items = 0;
            for (int i = 0; i <= LETTERS_MOST; i++) {
                int token = nextToken();
                if (token == ENDED) {
                    break;
                }
                boolean isCrop = token == CROP && into.men == 0 && into.crops < CROPS_MOST;
                boolean isMan = token == MAN && into.crops > 0 && into.men < MEN_MOST;
                if (!(isCrop && readCrop(into) || isMan && readMan(into))) {
                    return FAULTY - start;
                }
                items++;
            }
            return items;
        }

        private boolean readCrop(Told into) {
            int crop = into.crops;
            if (!readNumber(1, WEIGHT_MOST)) {
                return false;
            }
            into.weight[crop] = number;
            if (!readNumber(1, WORTH_MOST)) {
                return false;
            }
            into.worth[crop] = number;
            into.crops++;
            return nextToken() == STOP;
        }

        private boolean readMan(Told into) {
            int m = into.men;
            if (!readNumber(1, STRONG_MOST)) {
                return false;
            }
            into.strong[m] = number;
            if (!readNumber(0, LEGS_MOST)) {
                return false;
            }
            into.legs[m] = number;
            if (!readNumber(0, NEEDS_MOST)) {
                return false;
            }
            into.needs[m] = number;
            for (int crop = 0; crop < into.crops; crop++) {
                if (!readNumber(0, YIELD_MOST)) {
                    return false;
                }
                into.yields[m][crop] = number;
            }
            into.men++;
            return nextToken() == STOP;
        }

        private boolean readNumber(int least, int most) {
            return nextToken() == NUMBER && number >= least && number <= most;
        }

        private int nextToken() {
            while (behind < length && letters[behind] == ' ') {
                behind++;
            }
            start = behind;
            if (start >= length) {
                return ENDED;
            }
            if (isDigit(letters[start])) {
                return numberToken();
            }
            behind++;
            switch (letters[start]) {
                case 'c': return CROP;
                case 'm': return MAN;
                case ';': return STOP;
                default: return WRONG;
            }
        }

        private int numberToken() {
            number = 0;
            while (behind < length && isDigit(letters[behind])) {
                // Held at just above the most, so that no row of digits wraps around.
                number = Math.min(10 * number + letters[behind] - '0', NUMBER_MOST + 1);
                behind++;
            }
            boolean zeroAhead = letters[start] == '0' && behind - start > 1;
            return zeroAhead || number > NUMBER_MOST ? WRONG : NUMBER;
        }

        private static boolean isDigit(int letter) {
            return letter >= '0' && letter <= '9';
        }
    }
}
