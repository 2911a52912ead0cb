import java.util.Arrays;

/**
 * A shire whose hills dance around a ring of twelve valleys; ../shared/DOC.md tells every promise.
 */
public final class HillDance {
    private static final int LOW = -1000001;
    private static final int BEYOND = 0;
    private static final int FULL = 1;
    private static final int KIND = 2;
    private static final int NONE = 3;
    private static final int STATE = 4;
    private static final int MISSING = 5;
    private static final int SIZE = 6;
    private static final int FINDINGS = 7;

    private static final int VALLEYS = 12;
    private static final int HILLS_MOST = 8;
    private static final int SPOTS = 10;
    private static final int SHEETS = 4;
    private static final int SHEET_MOST = 40;
    private static final int TAPE_MOST = 120;

    private static final int RAIN_MOST = 9;
    private static final int STEP_MOST = 5;
    private static final int TURNS_ROUND = 4;
    private static final int HEIGHT_MOST = 99;
    private static final int BOWED_MOST = 9999;
    private static final int AGE_MOST = 99999;
    private static final int SEARCH_MOST = 200;
    private static final int ROUND_MOST = 300;

    private static final int ITS_KIND = 0;
    private static final int ITS_VALLEY = 1;
    private static final int ITS_STEP = 2;
    private static final int ITS_TURN = 3;
    private static final int ITS_HEIGHT = 4;
    private static final int ITS_BOWED = 5;
    private static final int ITS_FACES = 6;

    private static final int IS_HILL = 0;
    private static final int IS_RIDGE = 1;
    private static final int IS_PARTNER = 2;
    private static final int IS_TWIN = 3;
    private static final int IS_FEUD = 4;
    private static final int IS_STONE = 5;
    private static final int IS_SCARP = 6;
    private static final int KINDS = 7;

    /** How much further on a hill faces, by its turn. */
    private static final int[] FURTHER_ON = {0, 1, 6, 11};
    /** The kind right above each kind; -1: there is none. */
    private static final int[] KIND_ABOVE = {-1, 0, 0, 2, 3, 0, 1};

    private final Shire shire = new Shire();
    /** Looks ahead are danced here, so that nothing of the shire itself changes. */
    private final Shire trial = new Shire();
    private final Shire kept = new Shire();
    private boolean isKept;
    private final Reader reader = new Reader();
    private final Sheet[] sheets = new Sheet[SHEETS];
    private final int[] found = new int[FINDINGS];

    public HillDance() {
        for (int s = 0; s < SHEETS; s++) {
            sheets[s] = new Sheet();
        }
    }

    // ---- rain, hills, valleys

    public int rain(int v) {
        if (isOutside(v, 0, RAIN_MOST)) {
            return finding(BEYOND);
        }
        int was = shire.rainfall;
        shire.rainfall = v;
        return was;
    }

    public int hill(int kind, int valley) {
        if (isOutside(kind, 0, KINDS - 1) || isNoValley(valley)) {
            return finding(BEYOND);
        }
        if (shire.isCrowded()) {
            return finding(FULL);
        }
        return shire.raise(kind, valley);
    }

    public int of(int hill, int what) {
        if (shire.lacks(hill) || isOutside(what, 0, 10)) {
            return finding(BEYOND);
        }
        switch (what) {
            case 7:
                return shire.movesOf(hill);
            case 8:
                return shire.turnsOf(hill);
            case 9:
                return shire.sinksOf(hill);
            case 10:
                return shire.meetsOf(hill);
            default:
                return shire.trait(hill, what);
        }
    }

    public int change(int hill, int what, int v) {
        if (shire.lacks(hill) || isOutside(what, ITS_KIND, ITS_BOWED)
                || isOutside(v, leastOf(what), mostOf(what))) {
            return finding(BEYOND);
        }
        int was = shire.trait(hill, what);
        shire.setTrait(hill, what, v);
        return was;
    }

    public int valley(int valley, int what) {
        if (isNoValley(valley) || isOutside(what, 0, 2)) {
            return finding(BEYOND);
        }
        if (what == 0) {
            return shire.standingAt(valley);
        }
        if (what == 1) {
            return shire.facing(valley);
        }
        return shire.highestAt(valley);
    }

    // ---- ages

    public int go(int n) {
        if (isOutside(n, 1, 60)) {
            return finding(BEYOND);
        }
        if (shire.age > AGE_MOST - n) {
            return finding(STATE);
        }
        shire.passAges(n);
        return Integer.bitCount(shire.meeting());
    }

    public int now(int what) {
        switch (what) {
            case 0:
                return shire.age;
            case 1:
                return shire.heightOfAll();
            case 2:
                return shire.meeting();
            case 3:
                return shire.valleysStoodAt();
            case 4:
                return shire.valleysFaced();
            case 5:
                return shire.bowedOfAll();
            default:
                return finding(BEYOND);
        }
    }

    // ---- what will be

    public int ahead(int hill, int what, int n) {
        if (shire.lacks(hill) || !isForetold(what) || isOutside(n, 0, 100)) {
            return finding(BEYOND);
        }
        trial.become(shire);
        trial.passAges(n);
        return trial.trait(hill, what);
    }

    public int when(int hill, int valley) {
        if (shire.lacks(hill) || isNoValley(valley)) {
            return finding(BEYOND);
        }
        trial.become(shire);
        for (int ages = 0; ages <= SEARCH_MOST; ages++) {
            if (trial.facedBy(hill) == valley) {
                return ages;
            }
            trial.passAge();
        }
        return finding(NONE);
    }

    public int meet(int a, int b) {
        if (isNoPair(a, b)) {
            return finding(BEYOND);
        }
        trial.become(shire);
        int ages = agesUntilMeeting(a, b, SEARCH_MOST);
        return ages < 0 ? finding(NONE) : ages;
    }

    public int round() {
        trial.become(shire);
        for (int ages = 1; ages <= ROUND_MOST; ages++) {
            trial.passAge();
            if (trial.standsAndTurnsAs(shire)) {
                return ages;
            }
        }
        return finding(NONE);
    }

    public int skylines(int valley, int n) {
        if (isNoValley(valley) || isOutside(n, 0, 200)) {
            return finding(BEYOND);
        }
        trial.become(shire);
        int ages = 0;
        for (int i = 0; i < n; i++) {
            if (trial.facing(valley) != 0) {
                ages++;
            }
            trial.passAge();
        }
        return ages;
    }

    public int wallflowers(int n) {
        if (isOutside(n, 0, 200)) {
            return finding(BEYOND);
        }
        trial.become(shire);
        int alone = shire.everyone();
        for (int i = 0; i < n && alone != 0; i++) {
            alone &= ~trial.meeting();
            trial.passAge();
        }
        return alone;
    }

    // ---- how to dance

    public int stand(int hill, int other) {
        return soonestWith(hill, other, ITS_VALLEY);
    }

    public int stepFor(int hill, int other) {
        return soonestWith(hill, other, ITS_STEP);
    }

    public int turnFor(int hill, int other) {
        return soonestWith(hill, other, ITS_TURN);
    }

    public int kindFor(int hill, int n) {
        if (shire.lacks(hill) || isOutside(n, 0, 60)) {
            return finding(BEYOND);
        }
        int best = 0;
        int most = -1;
        for (int kind = 0; kind < KINDS; kind++) {
            tryWith(hill, ITS_KIND, kind);
            trial.passAges(n);
            int bowed = trial.trait(hill, ITS_BOWED);
            if (bowed > most) {
                most = bowed;
                best = kind;
            }
        }
        return best;
    }

    public int rainFor(int hill, int v, int n) {
        if (shire.lacks(hill) || isOutside(v, 0, HEIGHT_MOST) || isOutside(n, 0, 60)) {
            return finding(BEYOND);
        }
        for (int wet = 0; wet <= RAIN_MOST; wet++) {
            trial.become(shire);
            trial.rainfall = wet;
            trial.passAges(n);
            if (trial.trait(hill, ITS_HEIGHT) <= v) {
                return wet;
            }
        }
        return finding(NONE);
    }

    // ---- roads

    public int road(int from, int to, int climb) {
        if (isNoValley(from) || isNoValley(to) || isOutside(climb, 0, HEIGHT_MOST)) {
            return finding(BEYOND);
        }
        int on = waysOn(from, to);
        int back = waysOn(to, from);
        boolean onOpen = shire.climbOn(from, to) <= climb;
        boolean backOpen = shire.climbOn(to, from) <= climb;
        if (onOpen && backOpen) {
            return Math.min(on, back);
        }
        if (onOpen) {
            return on;
        }
        return backOpen ? back : finding(NONE);
    }

    public int climb(int from, int to) {
        if (isNoValley(from) || isNoValley(to)) {
            return finding(BEYOND);
        }
        return shire.leastClimb(from, to);
    }

    public int open(int from, int to, int climb, int n) {
        if (isNoValley(from) || isNoValley(to) || isOutside(climb, 0, HEIGHT_MOST)
                || isOutside(n, 0, 100)) {
            return finding(BEYOND);
        }
        return agesOpen(from, to, climb, n);
    }

    public int lay(int from, int climb, int n) {
        if (isNoValley(from) || isOutside(climb, 0, HEIGHT_MOST) || isOutside(n, 0, 60)) {
            return finding(BEYOND);
        }
        int best = 0;
        int most = -1;
        for (int to = 0; to < VALLEYS && most < n; to++) {
            int ages = to == from ? -1 : agesOpen(from, to, climb, n);
            if (ages > most) {
                most = ages;
                best = to;
            }
        }
        return best;
    }

    // ---- what was faced

    public int fits(int s, int hill) {
        int wrong = wrongWithTold(s, hill);
        return wrong >= 0 ? finding(wrong) : Integer.bitCount(fittingSet(s, hill, ITS_STEP));
    }

    public int step(int s, int hill) {
        int wrong = wrongWithTold(s, hill);
        if (wrong >= 0) {
            return finding(wrong);
        }
        int fitting = fittingSet(s, hill, ITS_STEP);
        for (int v = -STEP_MOST; v <= STEP_MOST; v++) {
            if ((fitting >> (v + STEP_MOST) & 1) != 0) {
                return v;
            }
        }
        return finding(NONE);
    }

    public int kinds(int s, int hill) {
        int wrong = wrongWithTold(s, hill);
        return wrong >= 0 ? finding(wrong) : fittingSet(s, hill, ITS_KIND);
    }

    // ---- wet ages

    public int rains(int n) {
        if (isOutside(n, 1, 20)) {
            return finding(BEYOND);
        }
        if (shire.age > AGE_MOST - n) {
            return finding(STATE);
        }
        for (int i = 0; i < n; i++) {
            shire.passWetAge();
        }
        return shire.heightOfAll();
    }

    public long odds(int n, int what) {
        if (isOutside(n, 0, 20) || isOutside(what, 0, 1)) {
            return finding(BEYOND);
        }
        int above = Integer.bitCount(shire.everyone() & ~shire.meeting());
        int below = HILLS_MOST;
        // 8 has no divisor but 2, three times: halving both is enough for lowest terms.
        for (int i = 0; i < 3 && above % 2 == 0; i++) {
            above /= 2;
            below /= 2;
        }
        int base = what == 0 ? above : below;
        long power = 1;
        for (int i = 0; i < n; i++) {
            power *= base;
        }
        return power;
    }

    public int seed(int v) {
        int was = shire.z;
        shire.z = v;
        return was;
    }

    // ---- texts

    public int feed(int bytes, int n) {
        if (isOutside(n, 1, 4)) {
            return finding(BEYOND);
        }
        if (reader.length > TAPE_MOST - n) {
            return finding(FULL);
        }
        for (int shift = 8 * (n - 1); shift >= 0; shift -= 8) {
            reader.append(bytes >> shift & 255);
        }
        return reader.length;
    }

    public int wipe() {
        int had = reader.length;
        reader.length = 0;
        return had;
    }

    public int text() {
        // Read into the trial: a text with a fault must leave the shire as it was.
        trial.become(shire);
        int answer = reader.readInto(trial);
        if (answer >= 0) {
            shire.become(trial);
        }
        reader.length = 0;
        return answer;
    }

    // ---- spots, sheets

    public int hold(int spot, int hill) {
        if (isOutside(spot, 0, SPOTS - 1) || hill != -1 && shire.lacks(hill)) {
            return finding(BEYOND);
        }
        shire.spots[spot] = hill;
        return 1;
    }

    public int as(int spot, int kind) {
        if (isOutside(spot, 0, SPOTS - 1) || isOutside(kind, 0, KINDS - 1)) {
            return finding(BEYOND);
        }
        int hill = shire.spots[spot];
        if (shire.lacks(hill)) {
            return finding(MISSING);
        }
        return isUnder(shire.trait(hill, ITS_KIND), kind) ? hill : finding(KIND);
    }

    public int sheet(int s, int bits, int n) {
        if (isNoSheet(s) || bits != 0 && bits != 8 && bits != 16 && bits != 32) {
            return finding(BEYOND);
        }
        if (n < 0) {
            return finding(SIZE);
        }
        if (n > SHEET_MOST) {
            return finding(BEYOND);
        }
        sheets[s].begin(bits, n);
        return sheets[s].length;
    }

    public int write(int s, int i, int v) {
        int wrong = wrongWithSheet(s);
        if (wrong >= 0) {
            return finding(wrong);
        }
        if (isOutside(i, 0, sheets[s].length - 1)) {
            return finding(BEYOND);
        }
        sheets[s].put(i, v);
        return 1;
    }

    public int copy(int s, int from, int t, int to, int n) {
        if (isNoSheet(s) || isNoSheet(t)) {
            return finding(BEYOND);
        }
        Sheet source = sheets[s];
        Sheet target = sheets[t];
        if (source.isMissing() || target.isMissing()) {
            return finding(MISSING);
        }
        if (source.bits != target.bits) {
            return finding(KIND);
        }
        if (!source.reaches(from, n) || !target.reaches(to, n)) {
            return finding(BEYOND);
        }
        System.arraycopy(source.numbers, from, target.numbers, to, n);
        return n;
    }

    public int load(int s) {
        int wrong = wrongWithSheet(s);
        if (wrong >= 0) {
            return finding(wrong);
        }
        Sheet sheet = sheets[s];
        int came = 0;
        while (came < sheet.length && !shire.lacks(came)
                && !isOutside(sheet.numbers[came], 0, HEIGHT_MOST)) {
            shire.setTrait(came, ITS_HEIGHT, sheet.numbers[came]);
            came++;
        }
        return came;
    }

    public int judge(int s) {
        int wrong = wrongWithSheet(s);
        if (wrong >= 0) {
            return finding(wrong);
        }
        Sheet sheet = sheets[s];
        for (int i = 0; i < sheet.length; i++) {
            if (shire.lacks(i) || shire.facedBy(i) != sheet.numbers[i]) {
                return 1 + i;
            }
        }
        return 0;
    }

    // ---- images

    public int image() {
        kept.become(shire);
        isKept = true;
        return 1;
    }

    public int undo() {
        if (!isKept) {
            return finding(NONE);
        }
        shire.become(kept);
        return shire.age;
    }

    public int tear() {
        int had = isKept ? 1 : 0;
        isKept = false;
        return had;
    }

    public int count(int what) {
        switch (what) {
            case 0:
                return shire.age;
            case 1:
                return shire.hills;
            case 2:
                return Integer.bitCount(shire.meeting());
            case 3:
                return shire.heightOfAll();
            case 4:
                return shire.bowedOfAll();
            case 5:
                return reader.length;
            case 6:
                return shire.z;
            case 7:
                return shire.spotsHeld();
            default:
                return finding(BEYOND);
        }
    }

    public int status(int which) {
        if (isOutside(which, -1, FINDINGS - 1)) {
            return finding(BEYOND);
        }
        if (which >= 0) {
            return found[which];
        }
        int all = 0;
        for (int i = 0; i < FINDINGS; i++) {
            all += found[i];
        }
        return all;
    }

    // ---- what the calls share

    private int finding(int which) {
        found[which]++;
        return LOW - which;
    }

    private static boolean isOutside(int v, int least, int most) {
        return v < least || v > most;
    }

    private static boolean isNoValley(int valley) {
        return isOutside(valley, 0, VALLEYS - 1);
    }

    private static boolean isNoSheet(int s) {
        return isOutside(s, 0, SHEETS - 1);
    }

    private boolean isNoPair(int a, int b) {
        return shire.lacks(a) || shire.lacks(b) || a == b;
    }

    private static boolean isForetold(int what) {
        return what == ITS_VALLEY || !isOutside(what, ITS_TURN, ITS_FACES);
    }

    private static int leastOf(int what) {
        return what == ITS_STEP ? -STEP_MOST : 0;
    }

    private static int mostOf(int what) {
        switch (what) {
            case ITS_KIND:
                return KINDS - 1;
            case ITS_VALLEY:
                return VALLEYS - 1;
            case ITS_STEP:
                return STEP_MOST;
            case ITS_TURN:
                return TURNS_ROUND - 1;
            case ITS_HEIGHT:
                return HEIGHT_MOST;
            default:
                return BOWED_MOST;
        }
    }

    private static boolean isUnder(int kind, int wanted) {
        int above = kind;
        for (int up = 0; up < KINDS && above >= 0; up++) {
            if (above == wanted) {
                return true;
            }
            above = KIND_ABOVE[above];
        }
        return false;
    }

    /** The finding that a sheet gives, or -1 if it can be read. */
    private int wrongWithSheet(int s) {
        if (isNoSheet(s)) {
            return BEYOND;
        }
        return sheets[s].isMissing() ? MISSING : -1;
    }

    /** The finding that a sheet and then a hill give, or -1 if both are there. */
    private int wrongWithTold(int s, int hill) {
        int wrong = wrongWithSheet(s);
        if (wrong >= 0) {
            return wrong;
        }
        return shire.lacks(hill) ? BEYOND : -1;
    }

    private void tryWith(int hill, int what, int v) {
        trial.become(shire);
        trial.setTrait(hill, what, v);
    }

    /** Dances the trial on until two hills meet: behind how many ages, or -1 if not within most. */
    private int agesUntilMeeting(int a, int b, int most) {
        for (int ages = 0; ages <= most; ages++) {
            if ((trial.meetsOf(a) >> b & 1) != 0) {
                return ages;
            }
            trial.passAge();
        }
        return -1;
    }

    /** The value of a hill's trait with which it meets another one soonest, or a finding. */
    private int soonestWith(int hill, int other, int what) {
        if (isNoPair(hill, other)) {
            return finding(BEYOND);
        }
        int best = 0;
        int fewest = SEARCH_MOST + 1;
        for (int v = leastOf(what); v <= mostOf(what); v++) {
            tryWith(hill, what, v);
            // Only what is sooner than the best so far counts: of several the least value stays.
            int ages = agesUntilMeeting(hill, other, fewest - 1);
            if (ages >= 0) {
                fewest = ages;
                best = v;
            }
        }
        return fewest > SEARCH_MOST ? finding(NONE) : best;
    }

    private static int waysOn(int from, int to) {
        return Math.floorMod(to - from, VALLEYS);
    }

    private int agesOpen(int from, int to, int climb, int n) {
        trial.become(shire);
        int ages = 0;
        for (int i = 0; i < n; i++) {
            if (trial.leastClimb(from, to) <= climb) {
                ages++;
            }
            trial.passAge();
        }
        return ages;
    }

    /** The values of a hill's trait with which it faces what a sheet tells; bit 0 is the least value. */
    private int fittingSet(int s, int hill, int what) {
        int least = leastOf(what);
        int set = 0;
        for (int v = least; v <= mostOf(what); v++) {
            tryWith(hill, what, v);
            if (facesAsTold(sheets[s], hill)) {
                set |= 1 << (v - least);
            }
        }
        return set;
    }

    private boolean facesAsTold(Sheet sheet, int hill) {
        for (int i = 0; i < sheet.length; i++) {
            int told = sheet.numbers[i];
            if (told != -1 && told != trial.facedBy(hill)) {
                return false;
            }
            trial.passAge();
        }
        return true;
    }

    /** All that an image keeps. Who stands where and who meets whom is kept up to date by each change. */
    private static final class Shire {
        private int rainfall = 2;
        private int age;
        private int z = 1;
        private int hills;
        private final int[] spots = new int[SPOTS];
        private final int[] kinds = new int[HILLS_MOST];
        private final int[] valleys = new int[HILLS_MOST];
        private final int[] steps = new int[HILLS_MOST];
        private final int[] turns = new int[HILLS_MOST];
        private final int[] heights = new int[HILLS_MOST];
        private final int[] bows = new int[HILLS_MOST];
        private final int[] faced = new int[HILLS_MOST];
        private final int[] met = new int[HILLS_MOST];
        private final int[] standing = new int[VALLEYS];
        private final int[] looking = new int[VALLEYS];

        Shire() {
            for (int i = 0; i < SPOTS; i++) {
                spots[i] = -1;
            }
        }

        boolean lacks(int h) {
            return h < 0 || h >= hills;
        }

        boolean isCrowded() {
            return hills >= HILLS_MOST;
        }

        /** Makes a new hill; the caller has seen that there is room for it. */
        int raise(int kind, int valley) {
            int h = hills;
            kinds[h] = kind;
            valleys[h] = valley;
            steps[h] = 1;
            turns[h] = 0;
            heights[h] = 50;
            bows[h] = 0;
            hills = h + 1;
            lookAround();
            return h;
        }

        int trait(int h, int what) {
            switch (what) {
                case ITS_KIND:
                    return kinds[h];
                case ITS_VALLEY:
                    return valleys[h];
                case ITS_STEP:
                    return steps[h];
                case ITS_TURN:
                    return turns[h];
                case ITS_HEIGHT:
                    return heights[h];
                case ITS_BOWED:
                    return bows[h];
                default:
                    return faced[h];
            }
        }

        void setTrait(int h, int what, int v) {
            switch (what) {
                case ITS_KIND:
                    kinds[h] = v;
                    break;
                case ITS_VALLEY:
                    valleys[h] = v;
                    break;
                case ITS_STEP:
                    steps[h] = v;
                    break;
                case ITS_TURN:
                    turns[h] = v;
                    break;
                case ITS_HEIGHT:
                    heights[h] = v;
                    break;
                default:
                    bows[h] = v;
                    break;
            }
            lookAround();
        }

        void become(Shire other) {
            rainfall = other.rainfall;
            age = other.age;
            z = other.z;
            hills = other.hills;
            System.arraycopy(other.spots, 0, spots, 0, SPOTS);
            System.arraycopy(other.kinds, 0, kinds, 0, HILLS_MOST);
            System.arraycopy(other.valleys, 0, valleys, 0, HILLS_MOST);
            System.arraycopy(other.steps, 0, steps, 0, HILLS_MOST);
            System.arraycopy(other.turns, 0, turns, 0, HILLS_MOST);
            System.arraycopy(other.heights, 0, heights, 0, HILLS_MOST);
            System.arraycopy(other.bows, 0, bows, 0, HILLS_MOST);
            lookAround();
        }

        private void lookAround() {
            Arrays.fill(standing, 0);
            Arrays.fill(looking, 0);
            for (int h = 0; h < hills; h++) {
                int facing = (valleys[h] + FURTHER_ON[turns[h]]) % VALLEYS;
                faced[h] = facing;
                standing[valleys[h]] |= 1 << h;
                looking[facing] |= 1 << h;
            }
            for (int h = 0; h < hills; h++) {
                met[h] = standing[faced[h]] & looking[valleys[h]] & ~(1 << h);
            }
        }

        int facedBy(int h) {
            return faced[h];
        }

        int meetsOf(int h) {
            return met[h];
        }

        int standingAt(int valley) {
            return standing[valley];
        }

        int facing(int valley) {
            return looking[valley];
        }

        int everyone() {
            return (1 << hills) - 1;
        }

        int meeting() {
            int set = 0;
            for (int h = 0; h < hills; h++) {
                if (met[h] != 0) {
                    set |= 1 << h;
                }
            }
            return set;
        }

        int valleysStoodAt() {
            return valleysIn(standing);
        }

        int valleysFaced() {
            return valleysIn(looking);
        }

        private static int valleysIn(int[] hillsOf) {
            int set = 0;
            for (int v = 0; v < VALLEYS; v++) {
                if (hillsOf[v] != 0) {
                    set |= 1 << v;
                }
            }
            return set;
        }

        int heightOfAll() {
            return sumOf(heights);
        }

        int bowedOfAll() {
            return sumOf(bows);
        }

        private int sumOf(int[] row) {
            int sum = 0;
            for (int h = 0; h < hills; h++) {
                sum += row[h];
            }
            return sum;
        }

        int spotsHeld() {
            int held = 0;
            for (int i = 0; i < SPOTS; i++) {
                if (spots[i] >= 0) {
                    held++;
                }
            }
            return held;
        }

        /** The greatest height at a valley; -1: no hill is there. */
        int highestAt(int valley) {
            int highest = -1;
            for (int h = 0; h < hills; h++) {
                if (valleys[h] == valley && heights[h] > highest) {
                    highest = heights[h];
                }
            }
            return highest;
        }

        /** The least climb for which the road further on from one valley to another is open. */
        int climbOn(int from, int to) {
            int ways = waysOn(from, to);
            int highest = 0;
            for (int h = 0; h < hills; h++) {
                int on = waysOn(from, valleys[h]);
                if (on > 0 && on < ways && heights[h] > highest) {
                    highest = heights[h];
                }
            }
            return highest;
        }

        int leastClimb(int from, int to) {
            // The road back is, turned around, the road further on from the other end.
            return Math.min(climbOn(from, to), climbOn(to, from));
        }

        int movesOf(int h) {
            switch (kinds[h]) {
                case IS_HILL:
                    return steps[h];
                case IS_RIDGE:
                    return 2 * steps[h];
                case IS_SCARP:
                    return 2 * steps[h] + tallOf(h);
                case IS_PARTNER:
                    return partnerMoves(h);
                case IS_TWIN:
                    return twinMoves(h);
                case IS_FEUD:
                    return -twinMoves(h);
                default:
                    return 0;
            }
        }

        private int tallOf(int h) {
            return heights[h] > 50 ? 1 : 0;
        }

        private int partnerMoves(int h) {
            return met[h] != 0 ? 0 : steps[h];
        }

        private int twinMoves(int h) {
            return partnerMoves(h) + Integer.bitCount(standing[valleys[h]]) - 1;
        }

        int turnsOf(int h) {
            switch (kinds[h]) {
                case IS_HILL:
                case IS_PARTNER:
                    return 1;
                case IS_SCARP:
                    return 2;
                case IS_TWIN:
                    return 1 + tallOf(h);
                case IS_FEUD:
                    return 3 * (1 + tallOf(h));
                default:
                    return 0;
            }
        }

        int sinksOf(int h) {
            switch (kinds[h]) {
                case IS_HILL:
                    return 1;
                case IS_RIDGE:
                    return rainfall;
                case IS_SCARP:
                case IS_PARTNER:
                    return rainfall + 1;
                case IS_TWIN:
                case IS_FEUD:
                    return (rainfall + 1) / 2;
                default:
                    return 0;
            }
        }

        void passAges(int n) {
            for (int i = 0; i < n; i++) {
                passAge();
            }
        }

        /** Hills see one another only as lookAround() left it, so they may change one by one. */
        void passAge() {
            for (int h = 0; h < hills; h++) {
                int moves = movesOf(h);
                int more = turnsOf(h);
                if (met[h] != 0) {
                    heights[h] = Math.max(0, heights[h] - sinksOf(h));
                    bows[h] = Math.min(BOWED_MOST, bows[h] + 1);
                } else {
                    heights[h] = Math.min(HEIGHT_MOST, heights[h] + 1);
                }
                valleys[h] = Math.floorMod(valleys[h] + moves, VALLEYS);
                turns[h] = (turns[h] + more) % TURNS_ROUND;
            }
            age = Math.min(AGE_MOST, age + 1);
            lookAround();
        }

        private int draw() {
            z = z * 1103515245 + 12345;
            return z >>> 8;
        }

        void passWetAge() {
            rainfall = draw() % 10;
            int h = draw() % 8;
            if (!lacks(h)) {
                setTrait(h, ITS_TURN, (turns[h] + 1) % TURNS_ROUND);
            }
            passAge();
        }

        boolean standsAndTurnsAs(Shire other) {
            for (int h = 0; h < hills; h++) {
                if (valleys[h] != other.valleys[h] || turns[h] != other.turns[h]) {
                    return false;
                }
            }
            return true;
        }
    }

    /** A row of numbers; without bits it is missing. */
    private static final class Sheet {
        private int bits;
        private int length;
        private final int[] numbers = new int[SHEET_MOST];

        void begin(int newBits, int n) {
            bits = newBits;
            length = newBits == 0 ? 0 : n;
            Arrays.fill(numbers, 0);
        }

        boolean isMissing() {
            return bits == 0;
        }

        void put(int i, int v) {
            if (bits == 8) {
                numbers[i] = (byte) v;
            } else if (bits == 16) {
                numbers[i] = (short) v;
            } else {
                numbers[i] = v;
            }
        }

        boolean reaches(int from, int n) {
            return from >= 0 && n >= 0 && from <= length && n <= length - from;
        }
    }

    /** The tape, and how a text is read from it. */
    private static final class Reader {
        private static final int END = 0;
        private static final int WORD = 1;
        private static final int NUMBER = 2;
        private static final int SEMICOLON = 3;
        private static final int MINUS = 4;
        private static final int STRANGE = 5;
        private static final int NUMBER_MOST = 999;

        private final int[] tape = new int[TAPE_MOST];
        private int length;
        /** Where the token that is looked at begins: if it can't stand there, this is the fault. */
        private int begin;
        private int end;
        private int token;
        private int number;

        /** The caller has seen that there is room for it. */
        void append(int b) {
            tape[length] = b;
            length++;
        }

        /** Reads the whole tape: how many items, or -1 less the fault. */
        int readInto(Shire shire) {
            end = 0;
            advance();
            for (int items = 1; items <= TAPE_MOST; items++) {
                if (!readItem(shire)) {
                    return -1 - begin;
                }
                if (token == END) {
                    return items;
                }
                if (token != SEMICOLON) {
                    return -1 - begin;
                }
                advance();
            }
            return -1 - begin;
        }

        private boolean readItem(Shire shire) {
            if (isWord("rain")) {
                advance();
                if (!isNumberTo(RAIN_MOST)) {
                    return false;
                }
                shire.rainfall = number;
                advance();
                return true;
            }
            int kind = kindTold();
            if (kind < 0 || shire.isCrowded()) {
                return false;
            }
            int h = shire.raise(kind, 0);
            advance();
            return readTrait(shire, h, ITS_VALLEY, "at")
                    && readTrait(shire, h, ITS_STEP, "step")
                    && readTrait(shire, h, ITS_TURN, "turn")
                    && readTrait(shire, h, ITS_HEIGHT, "high");
        }

        /** A trait that needn't be told: false only if it is told wrongly. */
        private boolean readTrait(Shire shire, int h, int what, String word) {
            if (!isWord(word)) {
                return true;
            }
            advance();
            boolean isBack = what == ITS_STEP && token == MINUS;
            if (isBack) {
                advance();
            }
            if (!isNumberTo(mostOf(what))) {
                return false;
            }
            shire.setTrait(h, what, isBack ? -number : number);
            advance();
            return true;
        }

        private boolean isNumberTo(int most) {
            return token == NUMBER && number <= most;
        }

        private int kindTold() {
            for (int kind = 0; kind < KINDS; kind++) {
                if (isWord(wordOf(kind))) {
                    return kind;
                }
            }
            return -1;
        }

        private static String wordOf(int kind) {
            switch (kind) {
                case IS_HILL:
                    return "hill";
                case IS_RIDGE:
                    return "ridge";
                case IS_PARTNER:
                    return "partner";
                case IS_TWIN:
                    return "twin";
                case IS_FEUD:
                    return "feud";
                case IS_STONE:
                    return "stone";
                default:
                    return "scarp";
            }
        }

        private boolean isWord(String word) {
            if (token != WORD || end - begin != word.length()) {
                return false;
            }
            for (int i = 0; i < word.length(); i++) {
                if (tape[begin + i] != word.charAt(i)) {
                    return false;
                }
            }
            return true;
        }

        /** Looks at the next token; behind the last one it is END, which begins where the tape ends. */
        private void advance() {
            begin = end;
            while (begin < length && tape[begin] == ' ') {
                begin++;
            }
            end = begin;
            if (begin >= length) {
                token = END;
            } else if (isLetter(tape[begin])) {
                token = WORD;
                takeLetters();
            } else if (isDigit(tape[begin])) {
                token = NUMBER;
                takeDigits();
            } else {
                token = signOf(tape[begin]);
                end = begin + 1;
            }
        }

        private void takeLetters() {
            while (end < length && isLetter(tape[end])) {
                end++;
            }
        }

        private void takeDigits() {
            number = 0;
            while (end < length && isDigit(tape[end])) {
                // One above the most is enough to be too much, however many digits follow.
                number = Math.min(NUMBER_MOST + 1, number * 10 + tape[end] - '0');
                end++;
            }
        }

        private static int signOf(int b) {
            if (b == ';') {
                return SEMICOLON;
            }
            return b == '-' ? MINUS : STRANGE;
        }

        private static boolean isLetter(int b) {
            return b >= 'a' && b <= 'z';
        }

        private static boolean isDigit(int b) {
            return b >= '0' && b <= '9';
        }
    }
}
