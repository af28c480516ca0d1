import java.util.Arrays;

/**
 * A state of birds who vote by dropping feathers. The document ../shared/DOC.md says what each
 * call answers; the words of its terms (bird, motion, drops, law, foot ..) are used here as there.
 */
public final class FeatherVotes {
    private static final int LOW = -1000001;
    private static final int BEYOND = LOW;
    private static final int FULL = LOW - 1;
    private static final int KIND = LOW - 2;
    private static final int NONE = LOW - 3;
    private static final int STATE = LOW - 4;
    private static final int MISSING = LOW - 5;
    private static final int SIZE = LOW - 6;
    private static final int FINDINGS = 7;

    private static final int PLAIN = 0;
    private static final int SWAN = 1;
    private static final int CROW = 2;
    private static final int RAVEN = 3;
    private static final int TERN = 4;
    private static final int WREN = 5;
    private static final int GULL = 6;
    private static final int KINDS = 7;
    /** The kind right above each kind; -1 above the plain bird. */
    private static final int[] ABOVE = {-1, PLAIN, PLAIN, CROW, RAVEN, PLAIN, WREN};

    private static final int COLOURS = 4;
    private static final int MOST_BIRDS = 8;
    private static final int MOST_MOTIONS = 8;
    private static final int MOST_FEATHERS = 99;
    private static final int MOST_KEEPS = 99;
    private static final int MOST_GROWS = 9;
    private static final int MOST_QUORUM = 99;
    private static final int MOST_EFFECT = 4;
    private static final int MOST_AT_FOOT = 9999;
    private static final int LAST_SEASON = 99999;
    private static final int MOST_NUMBER = 999;
    private static final int MOST_BYTES = 120;
    private static final int SPOTS = 10;
    private static final int NOBODY = -1;
    private static final int SHEETS = 4;
    private static final int MOST_NUMBERS = 40;
    private static final int MOST_ON_AGENDA = 5;
    /** 5 motions have 5 * 4 * 3 * 2 orders. */
    private static final int MOST_ORDERS = 120;
    private static final int SEASONS_A_CALL = 40;
    private static final int YEARS_A_CALL = 20;
    private static final int SEASONS_AHEAD = 200;
    private static final int MOST_IN_WIND = 15;
    private static final int TENTHS = 10;
    private static final int MOST_STOLEN = 9;

    /** What of() and change() tell of a bird. */
    private static final int BIRD_KIND = 0;
    private static final int BIRD_KEEPS = 1;
    private static final int BIRD_GROWS = 2;
    private static final int BIRD_FEATHERS = 3;
    private static final int BIRD_ALL_FEATHERS = 7;
    private static final int BIRD_FLIES = 8;

    /** What told() and tell() tell of a motion. */
    private static final int MOTION_COLOUR = 0;
    private static final int MOTION_QUORUM = 1;
    private static final int MOTION_WANTS = 2;
    private static final int MOTION_EFFECT = 3;
    private static final int MOTION_LAW = 4;

    /** From here on now() tells what lies at the foot, by colours. */
    private static final int NOW_FOOT = 4;

    private final State here = new State();
    /** Where what would be is tried out, so that nothing changes here. */
    private final State trial = new State();
    private final State kept = new State();
    private boolean isKept = false;
    private final Tape tape = new Tape();
    private final Sheet[] sheets = new Sheet[SHEETS];
    private final Orders orders = new Orders();
    private final int[] findings = new int[FINDINGS];

    public FeatherVotes() {
        for (int s = 0; s < SHEETS; s++) {
            sheets[s] = new Sheet();
        }
    }

    // ---- birds, motions

    public int bird(int kind) {
        if (!isUpTo(kind, KINDS - 1)) {
            return finding(BEYOND);
        }
        if (here.birdCount >= MOST_BIRDS) {
            return finding(FULL);
        }
        return here.addBird(kind);
    }

    public int of(int bird, int what) {
        if (!here.hasBird(bird) || !isUpTo(what, BIRD_FLIES)) {
            return finding(BEYOND);
        }
        return here.birds[bird].feature(what);
    }

    public int change(int bird, int what, int v) {
        if (!here.hasBird(bird) || !isUpTo(what, BIRD_ALL_FEATHERS - 1)
                || !isUpTo(v, Bird.mostOf(what))) {
            return finding(BEYOND);
        }
        int was = here.birds[bird].feature(what);
        here.birds[bird].setFeature(what, v);
        return was;
    }

    public int motion(int colour) {
        if (!isUpTo(colour, COLOURS - 1)) {
            return finding(BEYOND);
        }
        if (here.motionCount >= MOST_MOTIONS) {
            return finding(FULL);
        }
        return here.addMotion(colour);
    }

    public int told(int motion, int what) {
        if (!here.hasMotion(motion) || !isUpTo(what, MOTION_LAW)) {
            return finding(BEYOND);
        }
        return here.motions[motion].feature(what);
    }

    public int tell(int motion, int what, int v) {
        if (!here.hasMotion(motion) || !isUpTo(what, MOTION_LAW)
                || !isUpTo(v, Motion.mostOf(what, here.allBirds()))) {
            return finding(BEYOND);
        }
        int was = here.motions[motion].feature(what);
        here.motions[motion].setFeature(what, v);
        return was;
    }

    // ---- votes

    public int drops(int bird, int motion) {
        if (!here.hasBird(bird) || !here.hasMotion(motion)) {
            return finding(BEYOND);
        }
        return here.dropOf(bird, here.motions[motion]);
    }

    public int side(int motion, int side) {
        if (!here.hasMotion(motion) || !isUpTo(side, 1)) {
            return finding(BEYOND);
        }
        return side == 1
                ? here.droppedFor(here.motions[motion])
                : here.droppedAgainst(here.motions[motion]);
    }

    public int passes(int motion) {
        if (!here.hasMotion(motion)) {
            return finding(BEYOND);
        }
        return here.wouldPass(here.motions[motion]) ? 1 : 0;
    }

    public int vote(int motion) {
        if (!here.hasMotion(motion)) {
            return finding(BEYOND);
        }
        return here.castVote(here.motions[motion]) ? 1 : 0;
    }

    public int seasons(int n) {
        if (n < 1 || n > SEASONS_A_CALL) {
            return finding(BEYOND);
        }
        if (here.season + n > LAST_SEASON) {
            return finding(STATE);
        }
        for (int i = 0; i < n; i++) {
            here.passSeason();
        }
        return here.allFeathers();
    }

    public int now(int what) {
        if (!isUpTo(what, NOW_FOOT + COLOURS - 1)) {
            return finding(BEYOND);
        }
        switch (what) {
            case 0:
                return here.season;
            case 1:
                return here.allFeathers();
            case 2:
                return here.laws();
            case 3:
                return here.flyers();
            default:
                return here.foot[what - NOW_FOOT];
        }
    }

    public int clears() {
        int lay = 0;
        for (int c = 0; c < COLOURS; c++) {
            lay += here.foot[c];
            here.foot[c] = 0;
        }
        return lay;
    }

    // ---- what will be (nothing changes)

    public int when(int motion) {
        if (!here.hasMotion(motion)) {
            return finding(BEYOND);
        }
        trial.become(here);
        for (int n = 0; n <= SEASONS_AHEAD; n++) {
            if (trial.wouldPass(trial.motions[motion])) {
                return n;
            }
            trial.passSeason();
        }
        return finding(NONE);
    }

    public int flies(int bird) {
        if (!here.hasBird(bird)) {
            return finding(BEYOND);
        }
        trial.become(here);
        for (int n = 0; n <= SEASONS_AHEAD; n++) {
            if (trial.birds[bird].canFly()) {
                return n;
            }
            trial.passSeason();
        }
        return finding(NONE);
    }

    public int plucked(int motion) {
        if (!here.hasMotion(motion)) {
            return finding(BEYOND);
        }
        trial.become(here);
        trial.castVote(trial.motions[motion]);
        return here.flyers() & ~trial.flyers();
    }

    public int hinges(int motion) {
        if (!here.hasMotion(motion)) {
            return finding(BEYOND);
        }
        trial.become(here);
        int wants = here.motions[motion].wants;
        boolean passesNow = here.wouldPass(here.motions[motion]);
        int turning = 0;
        for (int b = 0; b < here.birdCount; b++) {
            if (tryWants(motion, wants ^ (1 << b)) != passesNow) {
                turning |= 1 << b;
            }
        }
        return turning;
    }

    public int sets(int motion) {
        if (!here.hasMotion(motion)) {
            return finding(BEYOND);
        }
        trial.become(here);
        int all = here.allBirds();
        int found = 0;
        for (int set = 0; set <= all; set++) {
            if (tryWants(motion, set)) {
                found++;
            }
        }
        return found;
    }

    public int power(int bird, int motion) {
        if (!here.hasBird(bird) || !here.hasMotion(motion)) {
            return finding(BEYOND);
        }
        trial.become(here);
        int all = here.allBirds();
        int own = 1 << bird;
        int found = 0;
        for (int set = 0; set <= all; set++) {
            if ((set & own) != 0 && tryWants(motion, set) && !tryWants(motion, set & ~own)) {
                found++;
            }
        }
        return found;
    }

    public int won(int motion) {
        if (!here.hasMotion(motion)) {
            return finding(BEYOND);
        }
        trial.become(here);
        int all = here.allBirds();
        int wants = here.motions[motion].wants;
        int best = NONE;
        int fewest = MOST_BIRDS + 1;
        for (int set = 0; set <= all; set++) {
            boolean fewer = (set & wants) == 0 && Integer.bitCount(set) < fewest;
            if (fewer && tryWants(motion, wants | set)) {
                best = set;
                fewest = Integer.bitCount(set);
            }
        }
        return best == NONE ? finding(NONE) : best;
    }

    public int colour(int motion) {
        if (!here.hasMotion(motion)) {
            return finding(BEYOND);
        }
        trial.become(here);
        Motion tried = trial.motions[motion];
        int best = NONE;
        int fewest = 0;
        for (int c = 0; c < COLOURS; c++) {
            tried.colour = c;
            int dropped = trial.droppedInAll(tried);
            if (trial.wouldPass(tried) && (best == NONE || dropped < fewest)) {
                best = c;
                fewest = dropped;
            }
        }
        return best == NONE ? finding(NONE) : best;
    }

    public int kindFor(int bird) {
        if (!here.hasBird(bird)) {
            return finding(BEYOND);
        }
        trial.become(here);
        int best = PLAIN;
        int most = -1;
        for (int k = 0; k < KINDS; k++) {
            trial.birds[bird].kind = k;
            int passing = trial.passingNow();
            if (passing > most) {
                best = k;
                most = passing;
            }
        }
        return best;
    }

    public int quorum(int motion) {
        if (!here.hasMotion(motion)) {
            return finding(BEYOND);
        }
        Motion asked = here.motions[motion];
        if (here.droppedFor(asked) <= here.droppedAgainst(asked)) {
            return finding(NONE);
        }
        return Math.min(MOST_QUORUM, here.droppedInAll(asked));
    }

    // ---- agendas

    public int agenda(int set) {
        if (!isAgenda(set)) {
            return finding(BEYOND);
        }
        orders.seek(here, trial, set);
        return orders.mostPassing;
    }

    public int ith(int set, int i) {
        if (!isAgenda(set) || !isUpTo(i, Integer.bitCount(set) - 1)) {
            return finding(BEYOND);
        }
        orders.seek(here, trial, set);
        return orders.best[i];
    }

    public int ways(int set) {
        if (!isAgenda(set)) {
            return finding(BEYOND);
        }
        orders.seek(here, trial, set);
        return orders.bestCount;
    }

    public int left(int set) {
        if (!isAgenda(set)) {
            return finding(BEYOND);
        }
        orders.seek(here, trial, set);
        return orders.feathersLeft;
    }

    // ---- wind, gulls

    public long wind(int motion, int w, int what) {
        if (!here.hasMotion(motion) || !isUpTo(w, TENTHS) || !isUpTo(what, 1)) {
            return finding(BEYOND);
        }
        int dropped = here.droppedInAll(here.motions[motion]);
        if (dropped > MOST_IN_WIND) {
            return finding(SIZE);
        }
        // Powers of numbers without a common divisor have none either: lowest terms stay lowest.
        int common = commonDivisor(TENTHS - w, TENTHS);
        int base = what == 0 ? TENTHS - w : TENTHS;
        return powerOf(base / common, dropped);
    }

    public int fits(int s) {
        if (!isUpTo(s, SHEETS - 1)) {
            return finding(BEYOND);
        }
        Sheet row = sheets[s];
        if (row.isMissing()) {
            return finding(MISSING);
        }
        int found = 0;
        for (int m = 0; m < here.motionCount; m++) {
            Motion motion = here.motions[m];
            if (row.allows(0, here.droppedFor(motion)) && row.allows(1, here.droppedAgainst(motion))) {
                found |= 1 << m;
            }
        }
        return found;
    }

    public int stolen(int s, int v) {
        if (!isUpTo(s, SHEETS - 1)) {
            return finding(BEYOND);
        }
        if (sheets[s].isMissing()) {
            return finding(MISSING);
        }
        if (!isUpTo(v, MOST_STOLEN)) {
            return finding(BEYOND);
        }
        int found = 0;
        for (int b = 0; b < here.birdCount; b++) {
            if (isRobbed(here.birds[b], v, sheets[s])) {
                found |= 1 << b;
            }
        }
        return found;
    }

    // ---- draws

    public int years(int n) {
        if (n < 1 || n > YEARS_A_CALL) {
            return finding(BEYOND);
        }
        if (here.season + n > LAST_SEASON) {
            return finding(STATE);
        }
        int passed = 0;
        for (int i = 0; i < n; i++) {
            here.passSeason();
            if (here.motionCount > 0 && here.castVote(here.motions[here.draw() % here.motionCount])) {
                passed++;
            }
        }
        return passed;
    }

    public int seed(int v) {
        int was = here.z;
        here.z = v;
        return was;
    }

    // ---- texts

    public int feed(int bytes, int n) {
        if (n < 1 || n > 4) {
            return finding(BEYOND);
        }
        if (tape.length + n > MOST_BYTES) {
            return finding(FULL);
        }
        for (int i = n - 1; i >= 0; i--) {
            tape.add((bytes >>> (8 * i)) & 255);
        }
        return tape.length;
    }

    public int wipe() {
        int had = tape.length;
        tape.length = 0;
        return had;
    }

    public int text() {
        trial.become(here);
        int items = tape.readInto(trial);
        tape.length = 0;
        if (items >= 0) {
            here.become(trial);
        }
        return items;
    }

    // ---- spots, sheets

    public int hold(int spot, int bird) {
        if (!isUpTo(spot, SPOTS - 1) || (bird != NOBODY && !here.hasBird(bird))) {
            return finding(BEYOND);
        }
        here.spots[spot] = bird;
        return 1;
    }

    public int as(int spot, int kind) {
        if (!isUpTo(spot, SPOTS - 1) || !isUpTo(kind, KINDS - 1)) {
            return finding(BEYOND);
        }
        int held = here.spots[spot];
        if (!here.hasBird(held)) {
            return finding(MISSING);
        }
        return here.birds[held].isA(kind) ? held : finding(KIND);
    }

    public int sheet(int s, int bits, int n) {
        if (!isUpTo(s, SHEETS - 1) || !Sheet.hasBits(bits)) {
            return finding(BEYOND);
        }
        if (n < 0) {
            return finding(SIZE);
        }
        if (n > MOST_NUMBERS) {
            return finding(BEYOND);
        }
        sheets[s].begin(bits, n);
        return sheets[s].size;
    }

    public int write(int s, int i, int v) {
        if (!isUpTo(s, SHEETS - 1)) {
            return finding(BEYOND);
        }
        if (sheets[s].isMissing()) {
            return finding(MISSING);
        }
        if (!isUpTo(i, sheets[s].size - 1)) {
            return finding(BEYOND);
        }
        sheets[s].put(i, v);
        return 1;
    }

    public int copy(int s, int from, int t, int to, int n) {
        if (!isUpTo(s, SHEETS - 1) || !isUpTo(t, SHEETS - 1)) {
            return finding(BEYOND);
        }
        Sheet source = sheets[s];
        Sheet target = sheets[t];
        if (source.isMissing() || target.isMissing()) {
            return finding(MISSING);
        }
        if (source.bits != target.bits) {
            return finding(KIND);
        }
        if (!source.hasRange(from, n) || !target.hasRange(to, n)) {
            return finding(BEYOND);
        }
        System.arraycopy(source.numbers, from, target.numbers, to, n);
        return n;
    }

    public int load(int s) {
        if (!isUpTo(s, SHEETS - 1)) {
            return finding(BEYOND);
        }
        Sheet row = sheets[s];
        if (row.isMissing()) {
            return finding(MISSING);
        }
        int came = 0;
        while (came < row.size && came < here.birdCount && isUpTo(row.numbers[came], MOST_FEATHERS)) {
            here.birds[came].feathers[0] = row.numbers[came];
            came++;
        }
        return came;
    }

    public int judge(int s) {
        if (!isUpTo(s, SHEETS - 1)) {
            return finding(BEYOND);
        }
        Sheet row = sheets[s];
        if (row.isMissing()) {
            return finding(MISSING);
        }
        for (int i = 0; i < row.size; i++) {
            if (!here.hasMotion(row.numbers[i])) {
                return finding(STATE);
            }
        }
        trial.become(here);
        return trial.castVotes(row.numbers, row.size);
    }

    // ---- images

    public int image() {
        kept.become(here);
        isKept = true;
        return 1;
    }

    public int undo() {
        if (!isKept) {
            return finding(NONE);
        }
        here.become(kept);
        return here.season;
    }

    public int tear() {
        int was = isKept ? 1 : 0;
        isKept = false;
        return was;
    }

    public int count(int what) {
        switch (what) {
            case 0:
                return here.season;
            case 1:
                return here.birdCount;
            case 2:
                return here.motionCount;
            case 3:
                return Integer.bitCount(here.laws());
            case 4:
                return here.allFeathers();
            case 5:
                return tape.length;
            case 6:
                return here.z;
            case 7:
                return here.spotsTaken();
            default:
                return finding(BEYOND);
        }
    }

    public int status(int which) {
        if (which == -1) {
            int all = 0;
            for (int f = 0; f < FINDINGS; f++) {
                all += findings[f];
            }
            return all;
        }
        return isUpTo(which, FINDINGS - 1) ? findings[which] : finding(BEYOND);
    }

    // ---- helpers of the calls

    private int finding(int which) {
        int place = LOW - which;
        if (isUpTo(place, FINDINGS - 1)) {
            findings[place]++;
        }
        return which;
    }

    private static boolean isUpTo(int v, int most) {
        return v >= 0 && v <= most;
    }

    private boolean isAgenda(int set) {
        return isUpTo(set, here.allMotions()) && Integer.bitCount(set) <= MOST_ON_AGENDA;
    }

    /** Whether the motion would pass on trial, if just these birds were for it. */
    private boolean tryWants(int motion, int wants) {
        trial.motions[motion].wants = wants;
        return trial.wouldPass(trial.motions[motion]);
    }

    private static boolean isRobbed(Bird bird, int v, Sheet row) {
        for (int c = 0; c < COLOURS; c++) {
            if (!row.allows(c, Math.max(0, bird.feathers[c] - v))) {
                return false;
            }
        }
        return true;
    }

    private static int commonDivisor(int a, int b) {
        for (int d = b; d > 1; d--) {
            if (a % d == 0 && b % d == 0) {
                return d;
            }
        }
        return 1;
    }

    private static long powerOf(int base, int times) {
        long product = 1;
        for (int i = 0; i < times; i++) {
            product *= base;
        }
        return product;
    }

    /** A bird, with its feathers by colours. */
    private static final class Bird {
        int kind;
        int keeps;
        int grows;
        final int[] feathers = new int[COLOURS];

        void hatch(int ofKind) {
            kind = ofKind;
            keeps = 2;
            grows = 1;
            Arrays.fill(feathers, 0);
        }

        void become(Bird other) {
            kind = other.kind;
            keeps = other.keeps;
            grows = other.grows;
            System.arraycopy(other.feathers, 0, feathers, 0, COLOURS);
        }

        static int mostOf(int what) {
            switch (what) {
                case BIRD_KIND:
                    return KINDS - 1;
                case BIRD_KEEPS:
                    return MOST_KEEPS;
                case BIRD_GROWS:
                    return MOST_GROWS;
                default:
                    return MOST_FEATHERS;
            }
        }

        int feature(int what) {
            switch (what) {
                case BIRD_KIND:
                    return kind;
                case BIRD_KEEPS:
                    return keeps;
                case BIRD_GROWS:
                    return grows;
                case BIRD_ALL_FEATHERS:
                    return allFeathers();
                case BIRD_FLIES:
                    return canFly() ? 1 : 0;
                default:
                    int colour = what - BIRD_FEATHERS;
                    return isUpTo(colour, COLOURS - 1) ? feathers[colour] : 0;
            }
        }

        void setFeature(int what, int v) {
            int colour = what - BIRD_FEATHERS;
            if (what == BIRD_KIND) {
                kind = v;
            } else if (what == BIRD_KEEPS) {
                keeps = v;
            } else if (what == BIRD_GROWS) {
                grows = v;
            } else if (isUpTo(colour, COLOURS - 1)) {
                feathers[colour] = v;
            }
        }

        int allFeathers() {
            int all = 0;
            for (int c = 0; c < COLOURS; c++) {
                all += feathers[c];
            }
            return all;
        }

        boolean canFly() {
            return allFeathers() >= keeps;
        }

        /** Whether it is of a kind, or of one under it. */
        boolean isA(int asked) {
            int k = kind;
            for (int step = 0; step < KINDS && k >= 0 && k < KINDS; step++) {
                if (k == asked) {
                    return true;
                }
                k = ABOVE[k];
            }
            return false;
        }

        void grow(int colour) {
            feathers[colour] = Math.min(MOST_FEATHERS, feathers[colour] + grows);
        }

        /** What it drops for a motion, when so many crows are on its side (itself, if it is one). */
        int dropFor(Motion motion, int crows) {
            int wish;
            switch (kind) {
                case SWAN:
                    wish = motion.colour == 0 ? 1 : 0;
                    break;
                case CROW:
                    wish = crows;
                    break;
                case RAVEN:
                    wish = 2 * crows;
                    break;
                case TERN:
                    wish = 2 * crows + 1;
                    break;
                case WREN:
                    wish = allFeathers() > keeps ? 1 : 0;
                    break;
                case GULL:
                    wish = (allFeathers() > keeps ? 1 : 0) + (motion.wants == 0 ? 1 : 0);
                    break;
                default:
                    wish = 1;
                    break;
            }
            return Math.min(feathers[motion.colour], wish);
        }
    }

    /** A motion; who wants it is a set of birds. */
    private static final class Motion {
        int colour;
        int quorum;
        int wants;
        int effect;
        int law;

        void begin(int ofColour) {
            colour = ofColour;
            quorum = 1;
            wants = 0;
            effect = 0;
            law = 0;
        }

        void become(Motion other) {
            colour = other.colour;
            quorum = other.quorum;
            wants = other.wants;
            effect = other.effect;
            law = other.law;
        }

        static int mostOf(int what, int allBirds) {
            switch (what) {
                case MOTION_COLOUR:
                    return COLOURS - 1;
                case MOTION_QUORUM:
                    return MOST_QUORUM;
                case MOTION_WANTS:
                    return allBirds;
                case MOTION_EFFECT:
                    return MOST_EFFECT;
                default:
                    return 1;
            }
        }

        int feature(int what) {
            switch (what) {
                case MOTION_COLOUR:
                    return colour;
                case MOTION_QUORUM:
                    return quorum;
                case MOTION_WANTS:
                    return wants;
                case MOTION_EFFECT:
                    return effect;
                default:
                    return law;
            }
        }

        void setFeature(int what, int v) {
            switch (what) {
                case MOTION_COLOUR:
                    colour = v;
                    break;
                case MOTION_QUORUM:
                    quorum = v;
                    break;
                case MOTION_WANTS:
                    wants = v;
                    break;
                case MOTION_EFFECT:
                    effect = v;
                    break;
                default:
                    law = v;
                    break;
            }
        }

        boolean isCarriedBy(int forIt, int against) {
            return forIt > against && forIt + against >= quorum;
        }
    }

    /** All that an image keeps. */
    private static final class State {
        final Bird[] birds = new Bird[MOST_BIRDS];
        final Motion[] motions = new Motion[MOST_MOTIONS];
        final int[] foot = new int[COLOURS];
        final int[] spots = new int[SPOTS];
        int birdCount = 0;
        int motionCount = 0;
        int season = 0;
        int z = 1;

        State() {
            for (int b = 0; b < MOST_BIRDS; b++) {
                birds[b] = new Bird();
            }
            for (int m = 0; m < MOST_MOTIONS; m++) {
                motions[m] = new Motion();
            }
            Arrays.fill(spots, NOBODY);
        }

        void become(State other) {
            birdCount = other.birdCount;
            motionCount = other.motionCount;
            season = other.season;
            z = other.z;
            for (int b = 0; b < birdCount; b++) {
                birds[b].become(other.birds[b]);
            }
            for (int m = 0; m < motionCount; m++) {
                motions[m].become(other.motions[m]);
            }
            System.arraycopy(other.foot, 0, foot, 0, COLOURS);
            System.arraycopy(other.spots, 0, spots, 0, SPOTS);
        }

        boolean hasBird(int bird) {
            return isUpTo(bird, birdCount - 1);
        }

        boolean hasMotion(int motion) {
            return isUpTo(motion, motionCount - 1);
        }

        int allBirds() {
            return (1 << birdCount) - 1;
        }

        int allMotions() {
            return (1 << motionCount) - 1;
        }

        /** The new bird's number; -1 if there is no room. */
        int addBird(int kind) {
            if (birdCount >= MOST_BIRDS) {
                return -1;
            }
            birds[birdCount].hatch(kind);
            birdCount++;
            return birdCount - 1;
        }

        /** The new motion's number; -1 if there is no room. */
        int addMotion(int colour) {
            if (motionCount >= MOST_MOTIONS) {
                return -1;
            }
            motions[motionCount].begin(colour);
            motionCount++;
            return motionCount - 1;
        }

        int allFeathers() {
            int all = 0;
            for (int b = 0; b < birdCount; b++) {
                all += birds[b].allFeathers();
            }
            return all;
        }

        int laws() {
            int set = 0;
            for (int m = 0; m < motionCount; m++) {
                set |= motions[m].law << m;
            }
            return set;
        }

        int flyers() {
            int set = 0;
            for (int b = 0; b < birdCount; b++) {
                if (birds[b].canFly()) {
                    set |= 1 << b;
                }
            }
            return set;
        }

        int spotsTaken() {
            int taken = 0;
            for (int i = 0; i < SPOTS; i++) {
                if (spots[i] != NOBODY) {
                    taken++;
                }
            }
            return taken;
        }

        void passSeason() {
            int colour = season % COLOURS;
            for (int b = 0; b < birdCount; b++) {
                birds[b].grow(colour);
            }
            season++;
        }

        int draw() {
            z = z * 1103515245 + 12345;
            return z >>> 8;
        }

        private int crowsAmong(int set) {
            int crows = 0;
            for (int b = 0; b < birdCount; b++) {
                if (isIn(set, b) && birds[b].isA(CROW)) {
                    crows++;
                }
            }
            return crows;
        }

        private static boolean isIn(int set, int member) {
            return ((set >> member) & 1) != 0;
        }

        private int againstIt(Motion motion) {
            return allBirds() & ~motion.wants;
        }

        int dropOf(int bird, Motion motion) {
            int itsSide = isIn(motion.wants, bird) ? motion.wants : againstIt(motion);
            return birds[bird].dropFor(motion, crowsAmong(itsSide));
        }

        int droppedFor(Motion motion) {
            return droppedBy(motion, motion.wants);
        }

        int droppedAgainst(Motion motion) {
            return droppedBy(motion, againstIt(motion));
        }

        int droppedInAll(Motion motion) {
            return droppedFor(motion) + droppedAgainst(motion);
        }

        private int droppedBy(Motion motion, int itsSide) {
            int crows = crowsAmong(itsSide);
            int dropped = 0;
            for (int b = 0; b < birdCount; b++) {
                if (isIn(itsSide, b)) {
                    dropped += birds[b].dropFor(motion, crows);
                }
            }
            return dropped;
        }

        boolean wouldPass(Motion motion) {
            return motion.isCarriedBy(droppedFor(motion), droppedAgainst(motion));
        }

        int passingNow() {
            int passing = 0;
            for (int m = 0; m < motionCount; m++) {
                if (wouldPass(motions[m])) {
                    passing++;
                }
            }
            return passing;
        }

        boolean castVote(Motion motion) {
            int forIt = letFall(motion, motion.wants);
            int against = letFall(motion, againstIt(motion));
            foot[motion.colour] = Math.min(MOST_AT_FOOT, foot[motion.colour] + forIt + against);
            boolean passed = motion.isCarriedBy(forIt, against);
            if (passed && motion.law == 0) {
                motion.law = 1;
                enact(motion.effect);
            }
            return passed;
        }

        /** No bird's drop hangs on another's feathers, so each may fall before the next is told. */
        private int letFall(Motion motion, int itsSide) {
            int crows = crowsAmong(itsSide);
            int fallen = 0;
            for (int b = 0; b < birdCount; b++) {
                if (isIn(itsSide, b)) {
                    int drop = birds[b].dropFor(motion, crows);
                    birds[b].feathers[motion.colour] -= drop;
                    fallen += drop;
                }
            }
            return fallen;
        }

        private void enact(int effect) {
            for (int b = 0; b < birdCount; b++) {
                Bird bird = birds[b];
                switch (effect) {
                    case 1:
                        bird.grows = Math.min(MOST_GROWS, bird.grows + 1);
                        break;
                    case 2:
                        bird.grows = Math.max(0, bird.grows - 1);
                        break;
                    case 3:
                        bird.keeps = Math.min(MOST_KEEPS, bird.keeps + 1);
                        break;
                    case 4:
                        bird.keeps = Math.max(0, bird.keeps - 1);
                        break;
                    default:
                        break;
                }
            }
        }

        /** Votes on a row of motions, one behind the other: how many pass. */
        int castVotes(int[] row, int size) {
            int passed = 0;
            for (int i = 0; i < size && i < row.length; i++) {
                if (hasMotion(row[i]) && castVote(motions[row[i]])) {
                    passed++;
                }
            }
            return passed;
        }
    }

    /** Looks through all orders of a set of motions for the best agenda. */
    private static final class Orders {
        final int[] best = new int[MOST_ON_AGENDA];
        int mostPassing;
        int bestCount;
        int feathersLeft;
        private final int[] order = new int[MOST_ON_AGENDA];
        private int size;

        void seek(State here, State trial, int set) {
            listMembers(set);
            mostPassing = -1;
            boolean more = true;
            for (int n = 0; n < MOST_ORDERS && more; n++) {
                trial.become(here);
                weigh(trial.castVotes(order, size), trial);
                more = stepOrder();
            }
        }

        private void listMembers(int set) {
            size = 0;
            for (int m = 0; m < MOST_MOTIONS && size < MOST_ON_AGENDA; m++) {
                if (((set >> m) & 1) != 0) {
                    order[size] = m;
                    size++;
                }
            }
        }

        private void weigh(int passing, State behind) {
            if (passing > mostPassing) {
                mostPassing = passing;
                bestCount = 1;
                feathersLeft = behind.allFeathers();
                System.arraycopy(order, 0, best, 0, size);
            } else if (passing == mostPassing) {
                bestCount++;
            }
        }

        /** The next order, by rows of motions; false behind the last. */
        private boolean stepOrder() {
            int i = size - 2;
            while (i >= 0 && order[i] > order[i + 1]) {
                i--;
            }
            if (i < 0) {
                return false;
            }
            int j = size - 1;
            while (j > i && order[j] < order[i]) {
                j--;
            }
            swap(i, j);
            for (int a = i + 1, b = size - 1; a < b; a++, b--) {
                swap(a, b);
            }
            return true;
        }

        private void swap(int i, int j) {
            int moved = order[i];
            order[i] = order[j];
            order[j] = moved;
        }
    }

    /** The tape, and the reader of texts: it splits the tape into tokens, then goes along them. */
    private static final class Tape {
        private static final int END = 0;
        private static final int WORD = 1;
        private static final int NUMBER = 2;
        private static final int SIGN = 3;
        private static final int BLANK = 4;
        private static final int STRANGE = 5;

        int length = 0;
        private final int[] bytes = new int[MOST_BYTES];
        /** Tokens by their sort, first byte and the byte behind; the last is the end of the tape. */
        private final int[] sorts = new int[MOST_BYTES + 1];
        private final int[] starts = new int[MOST_BYTES + 1];
        private final int[] ends = new int[MOST_BYTES + 1];
        private int tokens;
        private int at;

        void add(int value) {
            if (length < MOST_BYTES) {
                bytes[length] = value;
                length++;
            }
        }

        /** How many items came into the state; with a fault -1 less its place. */
        int readInto(State state) {
            split();
            at = 0;
            for (int items = 1; items <= MOST_BYTES; items++) {
                if (!readItem(state)) {
                    return -1 - starts[at];
                }
                if (sorts[at] == END) {
                    return items;
                }
                if (sorts[at] != SIGN) {
                    return -1 - starts[at];
                }
                advance();
            }
            return -1 - starts[at];
        }

        private void split() {
            tokens = 0;
            int place = 0;
            while (place < length) {
                int sort = sortAt(place);
                int start = place;
                place++;
                while (place < length && isLong(sort) && sortAt(place) == sort) {
                    place++;
                }
                if (sort != BLANK) {
                    addToken(sort, start, place);
                }
            }
            addToken(END, length, length);
        }

        private void addToken(int sort, int start, int end) {
            if (tokens <= MOST_BYTES) {
                sorts[tokens] = sort;
                starts[tokens] = start;
                ends[tokens] = end;
                tokens++;
            }
        }

        private int sortAt(int place) {
            int value = bytes[place];
            if (value >= 'a' && value <= 'z') {
                return WORD;
            }
            if (value >= '0' && value <= '9') {
                return NUMBER;
            }
            return value == ';' ? SIGN : value == ' ' ? BLANK : STRANGE;
        }

        private static boolean isLong(int sort) {
            return sort == WORD || sort == NUMBER;
        }

        private void advance() {
            if (at < tokens - 1) {
                at++;
            }
        }

        private boolean isWord(String word) {
            if (sorts[at] != WORD || ends[at] - starts[at] != word.length()) {
                return false;
            }
            for (int i = 0; i < word.length(); i++) {
                if (bytes[starts[at] + i] != word.charAt(i)) {
                    return false;
                }
            }
            return true;
        }

        private boolean takeWord(String word) {
            boolean stands = isWord(word);
            if (stands) {
                advance();
            }
            return stands;
        }

        /** The number that stands here; -1, and it stays, if it is another token or too great. */
        private int takeNumber(int most) {
            if (sorts[at] != NUMBER) {
                return -1;
            }
            int value = 0;
            for (int i = starts[at]; i < ends[at]; i++) {
                // A tape of digits alone would go beyond an int: what is too great stays too great.
                value = Math.min(MOST_NUMBER + 1, value * 10 + bytes[i] - '0');
            }
            if (value > most) {
                return -1;
            }
            advance();
            return value;
        }

        private boolean readItem(State state) {
            int kind = kindHere();
            if (kind >= 0) {
                return readBird(state, kind);
            }
            if (isWord("motion")) {
                return readMotion(state);
            }
            return takeWord("season") && readSeason(state);
        }

        private int kindHere() {
            for (int k = 0; k < KINDS; k++) {
                if (isWord(nameOf(k))) {
                    return k;
                }
            }
            return -1;
        }

        private static String nameOf(int kind) {
            switch (kind) {
                case SWAN:
                    return "swan";
                case CROW:
                    return "crow";
                case RAVEN:
                    return "raven";
                case TERN:
                    return "tern";
                case WREN:
                    return "wren";
                case GULL:
                    return "gull";
                default:
                    return "bird";
            }
        }

        private boolean readBird(State state, int kind) {
            int number = state.addBird(kind);
            if (number < 0) {
                return false;
            }
            advance();
            Bird bird = state.birds[number];
            return readFeathers(bird) && readBirdFeature(bird, "keeps", BIRD_KEEPS)
                    && readBirdFeature(bird, "grows", BIRD_GROWS);
        }

        private boolean readFeathers(Bird bird) {
            if (!takeWord("has")) {
                return true;
            }
            for (int c = 0; c < COLOURS && (c == 0 || sorts[at] == NUMBER); c++) {
                int v = takeNumber(MOST_FEATHERS);
                if (v < 0) {
                    return false;
                }
                bird.feathers[c] = v;
            }
            return true;
        }

        private boolean readBirdFeature(Bird bird, String word, int what) {
            if (!takeWord(word)) {
                return true;
            }
            int v = takeNumber(Bird.mostOf(what));
            if (v < 0) {
                return false;
            }
            bird.setFeature(what, v);
            return true;
        }

        private boolean readMotion(State state) {
            int number = state.addMotion(0);
            if (number < 0) {
                return false;
            }
            advance();
            int colour = takeNumber(COLOURS - 1);
            if (colour < 0) {
                return false;
            }
            Motion motion = state.motions[number];
            motion.colour = colour;
            int all = state.allBirds();
            return readMotionFeature(motion, "quorum", MOTION_QUORUM, all)
                    && readMotionFeature(motion, "wants", MOTION_WANTS, all)
                    && readMotionFeature(motion, "effect", MOTION_EFFECT, all);
        }

        private boolean readMotionFeature(Motion motion, String word, int what, int allBirds) {
            if (!takeWord(word)) {
                return true;
            }
            int v = takeNumber(Motion.mostOf(what, allBirds));
            if (v < 0) {
                return false;
            }
            motion.setFeature(what, v);
            return true;
        }

        private boolean readSeason(State state) {
            int v = takeNumber(MOST_NUMBER);
            if (v < 0) {
                return false;
            }
            state.season = v;
            return true;
        }
    }

    /** A row of numbers of some bits; of 0 bits it is missing. */
    private static final class Sheet {
        int bits = 0;
        int size = 0;
        final int[] numbers = new int[MOST_NUMBERS];

        static boolean hasBits(int asked) {
            return asked == 0 || asked == 8 || asked == 16 || asked == 32;
        }

        void begin(int ofBits, int n) {
            bits = ofBits;
            size = ofBits == 0 ? 0 : n;
            Arrays.fill(numbers, 0);
        }

        boolean isMissing() {
            return bits == 0;
        }

        void put(int i, int v) {
            if (isUpTo(i, size - 1)) {
                numbers[i] = bits == 8 ? (byte) v : bits == 16 ? (short) v : v;
            }
        }

        /** Whether its number i is the value; one that lacks is any. */
        boolean allows(int i, int value) {
            return !isUpTo(i, size - 1) || numbers[i] == value;
        }

        boolean hasRange(int from, int n) {
            return from >= 0 && n >= 0 && from <= size && n <= size - from;
        }
    }
}
