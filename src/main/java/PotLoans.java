import java.util.Arrays;

/**
 * A lender, what he believes, and the claims by which a borrower gets coins of him.
 * Sets of beliefs and of claims are bits of an int throughout: bit n is number n.
 */
public final class PotLoans {
    public static final int BAD = -1, STATE = -2, FULL = -3, NONE = -9;
    public static final int NO = -1000000;

    private static final int BELIEFS = 8, BELIEF_SETS = 256;
    private static final int MOST_CLAUSES = 8, MOST_CLASHES = 8, MOST_CLAIMS = 6, CLAIM_SETS = 64;
    private static final int MOST_IN_ROW = 8, MOST_BYTES = 220, MOST_TOLD = 6, MOST_UNDONE = 10;
    private static final int MOST_REFUSALS = 999, MOST_FORBID = 999, IMAGES = 2;
    private static final int FIRST_PURSE = 50, ODDS_PARTS = 10, FAULT_BASE = -10;
    private static final int GLADLY = 0, CAN_NOT_REFUSE = 1, WOULD_BE_CAUGHT = 2;
    private static final int TOO_DEAR = 3, NOTHING_IN_IT = 4, WAS_ACCEPTED = 5;
    private static final int CLAIM_TRACE = 1, POT_TRACE = 10, HEN_TRACE = 100;
    private static final int COPPER_TRACE = 1000, EGG_TRACE = 10000, JEST_TRACE = 100000;

    private final Reader reader;
    private Village village;
    private final Lender lender;
    private final Lender[] images;
    private final boolean[] imageKept;
    private final int[] toldClaim;
    private final int[] toldHow;
    private int toldCount;
    private final Rows rows;
    private long traceSum;

    public PotLoans() {
        reader = new Reader();
        village = new Village();
        lender = new Lender();
        images = new Lender[IMAGES];
        for (int i = 0; i < IMAGES; i++) {
            images[i] = new Lender();
        }
        imageKept = new boolean[IMAGES];
        toldClaim = new int[MOST_TOLD];
        toldHow = new int[MOST_TOLD];
        rows = new Rows();
    }

    // ---- the village

    public int type(int c) {
        if (c < 0 || c > 255) {
            return BAD;
        }
        if (reader.isFull()) {
            return FULL;
        }
        reader.append(c);
        return reader.length;
    }

    public int clear() {
        return reader.makeEmpty();
    }

    public int village() {
        int items = reader.read();
        if (items < 0) {
            return items;
        }
        village = reader.exchange(village);
        lender.begin(village);
        toldCount = 0;
        for (int i = 0; i < IMAGES; i++) {
            imageKept[i] = false;
        }
        reader.makeEmpty();
        return items;
    }

    public int claim(int c, int what) {
        if (!isClaim(c)) {
            return BAD;
        }
        switch (what) {
            case 0: return village.gives[c];
            case 1: return village.takes[c];
            case 2: return village.rests[c];
            case 3: return village.grants[c];
            case 4: return wasAccepted(c) ? 1 : 0;
            case 5: return wasAccepted(c) ? WAS_ACCEPTED : howNow(c);
            default: return BAD;
        }
    }

    public int clause(int c, int what) {
        if (c < 0 || c >= village.clauses) {
            return BAD;
        }
        switch (what) {
            case 0: return village.mustBelieve[c];
            case 1: return village.whoBelieves[c];
            case 2: return village.binds(c, believedNow()) ? 1 : 0;
            default: return BAD;
        }
    }

    public int now(int what) {
        switch (what) {
            case 0: return lender.held;
            case 1: return believedNow();
            case 2: return lender.purse;
            case 3: return lender.accepted;
            case 4: return lender.refusals;
            case 5: return village.isCaught(believedNow()) ? 1 : 0;
            case 6: return village.acceptable(lender.accepted, lender.held, lender.purse);
            default: return BAD;
        }
    }

    // ---- what is done

    public int makes(int c) {
        if (!isClaim(c)) {
            return BAD;
        }
        if (wasAccepted(c) || lender.refusals >= MOST_REFUSALS) {
            return STATE;
        }
        int how = howNow(c);
        lender.remember();
        if (isAcceptance(how)) {
            lender.accept(village, c);
        } else {
            lender.refusals++;
        }
        return how;
    }

    public int recants(int b) {
        if (!isBelief(b)) {
            return BAD;
        }
        if (!lender.holdsBelief(b)) {
            return STATE;
        }
        lender.remember();
        lender.held &= ~(1 << b);
        return lender.held;
    }

    public int holds(int b) {
        if (!isBelief(b)) {
            return BAD;
        }
        if (lender.holdsBelief(b)) {
            return STATE;
        }
        lender.remember();
        lender.held |= 1 << b;
        return believedNow();
    }

    public int undo() {
        if (lender.undoable == 0) {
            return STATE;
        }
        lender.restoreLatest();
        return lender.undoable;
    }

    // ---- what follows

    public int steps(int b) {
        if (!isBelief(b)) {
            return BAD;
        }
        return village.stepsTo(b, lender.held);
    }

    public int would(int set) {
        if (set < 0 || set >= BELIEF_SETS) {
            return BAD;
        }
        return village.beliefsBy(set);
    }

    public int together(int what) {
        if (what < 0 || what > 1) {
            return BAD;
        }
        int most = village.mostUncaught();
        if (most == NONE) {
            return NONE;
        }
        return what == 0 ? Integer.bitCount(most) : most;
    }

    // ---- rows of claims

    public int row(int c, int i) {
        if (!isClaim(c) || i < -1 || wasAccepted(c)) {
            return BAD;
        }
        rows.find(village, lender);
        rows.measureTo(c);
        int length = rows.far[0];
        if (length > MOST_CLAIMS) {
            return NONE;
        }
        if (i == -1) {
            return length;
        }
        return i < length ? rows.claimAt(i) : NONE;
    }

    public int haul(int what) {
        if (what < 0 || what > 1) {
            return BAD;
        }
        rows.find(village, lender);
        int best = rows.bestWithout(0);
        return what == 0 ? rows.gain(best) : best;
    }

    public int forbid(int v) {
        if (v < 0 || v > MOST_FORBID) {
            return BAD;
        }
        rows.find(village, lender);
        int open = village.allClaims() & ~lender.accepted;
        int fewest = open;
        for (int set = 0; set < open; set++) {
            boolean fewer = Integer.bitCount(set) < Integer.bitCount(fewest);
            if (fewer && (set & ~open) == 0 && rows.gain(rows.bestWithout(set)) <= v) {
                fewest = set;
            }
        }
        return fewest;
    }

    public int odds(int c, int x, int what) {
        if (!isClaim(c) || x < 0 || x > ODDS_PARTS || what < 0 || what > 1) {
            return BAD;
        }
        if (wasAccepted(c)) {
            return 1;
        }
        rows.find(village, lender);
        rows.weigh(x);
        int upper = rows.weightWith(c);
        int lower = rows.weightInAll();
        int shared = greatestDivisor(upper, lower);
        if (shared < 1) {
            return BAD;
        }
        return what == 0 ? upper / shared : lower / shared;
    }

    // ---- what he believed

    public int tells(int c, int how) {
        if (!isClaim(c) || how < GLADLY || how > NOTHING_IN_IT) {
            return BAD;
        }
        if (toldCount >= MOST_TOLD) {
            return FULL;
        }
        toldClaim[toldCount] = c;
        toldHow[toldCount] = how;
        toldCount++;
        return toldCount;
    }

    public int forget() {
        int had = toldCount;
        toldCount = 0;
        return had;
    }

    public int believed(int what) {
        if (what < 0 || what > 2) {
            return BAD;
        }
        int many = 0;
        int least = NONE;
        int inAll = BELIEF_SETS - 1;
        for (int set = 0; set < BELIEF_SETS; set++) {
            if (fitsTold(set)) {
                least = many == 0 ? set : least;
                inAll &= set;
                many++;
            }
        }
        if (what == 0) {
            return many;
        }
        if (many == 0) {
            return NONE;
        }
        return what == 1 ? least : inAll;
    }

    // ---- kinds, images

    public int mark(int kind, int c) {
        if (!isClaim(c)) {
            return NO;
        }
        switch (kind) {
            case 0: return markOfClaim(c);
            case 1: return markOfPot(c);
            case 2: return markOfHen(c);
            case 3: return markOfCopper(c);
            case 4: return markOfEgg(c);
            case 5: return markOfJest(c);
            default: return NO;
        }
    }

    public int keep(int image) {
        if (!isImage(image)) {
            return BAD;
        }
        images[image].become(lender);
        imageKept[image] = true;
        return lender.purse;
    }

    public int back(int image) {
        if (!isImage(image)) {
            return BAD;
        }
        if (!imageKept[image]) {
            return STATE;
        }
        lender.become(images[image]);
        return lender.purse;
    }

    public int count(int what) {
        switch (what) {
            case 0: return village.clauses;
            case 1: return village.clashes;
            case 2: return village.claims;
            case 3: return toldCount;
            case 4: return lender.undoable;
            case 5: return reader.length;
            default: return BAD;
        }
    }

    public long trace() {
        return traceSum;
    }

    // ---- helpers

    private boolean isClaim(int c) {
        return c >= 0 && c < village.claims;
    }

    private static boolean isBelief(int b) {
        return b >= 0 && b < BELIEFS;
    }

    private static boolean isImage(int image) {
        return image >= 0 && image < IMAGES;
    }

    private static boolean isAcceptance(int how) {
        return how == GLADLY || how == CAN_NOT_REFUSE;
    }

    private boolean wasAccepted(int c) {
        return (lender.accepted & 1 << c) != 0;
    }

    private int believedNow() {
        return village.beliefsBy(lender.held);
    }

    private int howNow(int c) {
        return village.howTaken(c, lender.held, lender.purse);
    }

    /** Whether he can have held the set at first: each told claim is the first made to him. */
    private boolean fitsTold(int set) {
        if (village.isCaught(village.beliefsBy(set))) {
            return false;
        }
        for (int i = 0; i < toldCount; i++) {
            if (village.howTaken(toldClaim[i], set, village.purseAtFirst) != toldHow[i]) {
                return false;
            }
        }
        return true;
    }

    /** Euclid; sixty-four turns are more than two ints can need. */
    private static int greatestDivisor(int a, int b) {
        int more = a;
        int less = b;
        for (int turn = 0; turn < 64 && less != 0; turn++) {
            int rest = more % less;
            more = less;
            less = rest;
        }
        return more;
    }

    private int markOfClaim(int c) {
        traceSum += CLAIM_TRACE;
        return village.gives[c];
    }

    private int markOfPot(int c) {
        traceSum += POT_TRACE;
        return markOfClaim(c) + Integer.bitCount(village.rests[c]);
    }

    private int markOfHen(int c) {
        traceSum += HEN_TRACE;
        return markOfClaim(c) - village.takes[c];
    }

    private int markOfCopper(int c) {
        traceSum += COPPER_TRACE;
        return markOfPot(c) * 2;
    }

    private int markOfEgg(int c) {
        traceSum += EGG_TRACE;
        return markOfHen(c) + Integer.bitCount(village.grants[c]);
    }

    private int markOfJest(int c) {
        traceSum += JEST_TRACE;
        return markOfClaim(c) + lender.refusals;
    }

    /** What a text tells. It does not change while it is in use, but for what it remembers of its own answers. */
    private static final class Village {
        int heldAtFirst;
        int purseAtFirst;
        int clauses;
        final int[] mustBelieve;
        final int[] whoBelieves;
        int clashes;
        final int[] clashPair;
        int claims;
        final int[] gives;
        final int[] takes;
        final int[] rests;
        final int[] grants;
        /** By what is held: what is believed then; -1 where nobody has asked yet. */
        final int[] beliefsKnown;

        Village() {
            purseAtFirst = FIRST_PURSE;
            mustBelieve = new int[MOST_CLAUSES];
            whoBelieves = new int[MOST_CLAUSES];
            clashPair = new int[MOST_CLASHES];
            gives = new int[MOST_CLAIMS];
            takes = new int[MOST_CLAIMS];
            rests = new int[MOST_CLAIMS];
            grants = new int[MOST_CLAIMS];
            beliefsKnown = new int[BELIEF_SETS];
            Arrays.fill(beliefsKnown, -1);
        }

        void makeEmpty() {
            heldAtFirst = 0;
            purseAtFirst = FIRST_PURSE;
            clauses = 0;
            clashes = 0;
            claims = 0;
            Arrays.fill(beliefsKnown, -1);
        }

        void addClause() {
            whoBelieves[clauses] = 0;
            clauses++;
        }

        void addClaim() {
            rests[claims] = 0;
            grants[claims] = 0;
            claims++;
        }

        int allClaims() {
            return (1 << claims) - 1;
        }

        boolean binds(int c, int believed) {
            return (whoBelieves[c] & ~believed) == 0;
        }

        /** What is believed, and what the clauses ask for at once by that. */
        int oneStepFrom(int believed) {
            int more = believed;
            for (int i = 0; i < clauses; i++) {
                if (binds(i, believed)) {
                    more |= 1 << mustBelieve[i];
                }
            }
            return more;
        }

        int beliefsBy(int held) {
            int set = held & BELIEF_SETS - 1;
            if (beliefsKnown[set] >= 0) {
                return beliefsKnown[set];
            }
            int believed = set;
            for (int step = 0; step < BELIEFS; step++) {
                int more = oneStepFrom(believed);
                if (more == believed) {
                    break;
                }
                believed = more;
            }
            beliefsKnown[set] = believed;
            return believed;
        }

        int stepsTo(int b, int held) {
            int believed = held;
            for (int step = 0; step <= BELIEFS; step++) {
                if ((believed & 1 << b) != 0) {
                    return step;
                }
                believed = oneStepFrom(believed);
            }
            return NONE;
        }

        boolean isCaught(int believed) {
            for (int i = 0; i < clashes; i++) {
                if ((clashPair[i] & ~believed) == 0) {
                    return true;
                }
            }
            return false;
        }

        int howTaken(int c, int held, int purse) {
            if (takes[c] > purse + gives[c]) {
                return TOO_DEAR;
            }
            if (isCaught(beliefsBy(held | grants[c]))) {
                return WOULD_BE_CAUGHT;
            }
            if ((rests[c] & ~beliefsBy(held)) == 0) {
                return CAN_NOT_REFUSE;
            }
            return gives[c] > takes[c] ? GLADLY : NOTHING_IN_IT;
        }

        /** The claims, but for those accepted, that who holds this, with this purse, accepts. */
        int acceptable(int accepted, int held, int purse) {
            int set = 0;
            for (int c = 0; c < claims; c++) {
                if ((accepted & 1 << c) == 0 && isAcceptance(howTaken(c, held, purse))) {
                    set |= 1 << c;
                }
            }
            return set;
        }

        /** Of the sets that hold all that follows from them and don't clash the largest, the least of several. */
        int mostUncaught() {
            int most = NONE;
            for (int set = 0; set < BELIEF_SETS; set++) {
                boolean stands = beliefsBy(set) == set && !isCaught(set);
                if (stands && (most == NONE || Integer.bitCount(set) > Integer.bitCount(most))) {
                    most = set;
                }
            }
            return most;
        }
    }

    /** All that changes as claims are made and beliefs taken back, with what may be undone. */
    private static final class Lender {
        private static final int FIELDS = 4;

        int held;
        int accepted;
        int purse;
        int refusals;
        int undoable;
        /** Four numbers for each thing that may be undone, the latest last. */
        private final int[] earlier;

        Lender() {
            purse = FIRST_PURSE;
            earlier = new int[MOST_UNDONE * FIELDS];
        }

        void begin(Village village) {
            held = village.heldAtFirst;
            purse = village.purseAtFirst;
            accepted = 0;
            refusals = 0;
            undoable = 0;
        }

        void become(Lender other) {
            held = other.held;
            accepted = other.accepted;
            purse = other.purse;
            refusals = other.refusals;
            undoable = other.undoable;
            System.arraycopy(other.earlier, 0, earlier, 0, earlier.length);
        }

        boolean holdsBelief(int b) {
            return (held & 1 << b) != 0;
        }

        void accept(Village village, int c) {
            accepted |= 1 << c;
            held |= village.grants[c];
            purse += village.gives[c] - village.takes[c];
        }

        void remember() {
            if (undoable >= MOST_UNDONE) {
                System.arraycopy(earlier, FIELDS, earlier, 0, earlier.length - FIELDS);
                undoable = MOST_UNDONE - 1;
            }
            int at = undoable * FIELDS;
            earlier[at] = held;
            earlier[at + 1] = accepted;
            earlier[at + 2] = purse;
            earlier[at + 3] = refusals;
            undoable++;
        }

        void restoreLatest() {
            if (undoable <= 0) {
                return;
            }
            undoable--;
            int at = undoable * FIELDS;
            held = earlier[at];
            accepted = earlier[at + 1];
            purse = earlier[at + 2];
            refusals = earlier[at + 3];
        }
    }

    /**
     * The rows of claims that can be accepted from now on. What he holds and has behind a row
     * depends on the set of its claims alone, so sets stand for rows.
     */
    private static final class Rows {
        private static final int TOO_FAR = 1000;

        private int claims;
        private int acceptedBefore;
        private int purseBefore;
        private final boolean[] reached;
        private final int[] held;
        private final int[] purse;
        /** The claims that are accepted behind a set that is reached. */
        private final int[] next;
        final int[] far;
        private final int[] weight;

        Rows() {
            reached = new boolean[CLAIM_SETS];
            held = new int[CLAIM_SETS];
            purse = new int[CLAIM_SETS];
            next = new int[CLAIM_SETS];
            far = new int[CLAIM_SETS];
            weight = new int[CLAIM_SETS];
        }

        /** A set is less than all that it leads to, so one way up through the numbers finds all. */
        void find(Village village, Lender lender) {
            claims = village.claims;
            acceptedBefore = lender.accepted;
            purseBefore = lender.purse;
            for (int set = 0; set < CLAIM_SETS; set++) {
                reached[set] = false;
                next[set] = 0;
            }
            reached[0] = true;
            held[0] = lender.held;
            purse[0] = lender.purse;
            for (int set = 0; set < CLAIM_SETS; set++) {
                if (reached[set]) {
                    next[set] = village.acceptable(acceptedBefore | set, held[set], purse[set]);
                    reachFrom(set, village);
                }
            }
        }

        private void reachFrom(int set, Village village) {
            for (int c = 0; c < claims; c++) {
                if ((next[set] & 1 << c) != 0) {
                    int behind = set | 1 << c;
                    reached[behind] = true;
                    held[behind] = held[set] | village.grants[c];
                    purse[behind] = purse[set] + village.gives[c] - village.takes[c];
                }
            }
        }

        /** By sets: how many claims more until the told one is accepted; TOO_FAR if it can't be. */
        void measureTo(int told) {
            for (int set = CLAIM_SETS - 1; set >= 0; set--) {
                far[set] = TOO_FAR;
                if ((set & 1 << told) != 0) {
                    far[set] = 0;
                    continue;
                }
                for (int c = 0; c < claims; c++) {
                    if ((next[set] & 1 << c) != 0) {
                        far[set] = Math.min(far[set], far[set | 1 << c] + 1);
                    }
                }
            }
        }

        /** Of the shortest rows that measureTo found, the first by numbers: its i-th claim. */
        int claimAt(int i) {
            int set = 0;
            int chosen = NONE;
            for (int step = 0; step <= i && step < MOST_CLAIMS; step++) {
                chosen = firstOnTheWay(set);
                if (chosen == NONE) {
                    return NONE;
                }
                set |= 1 << chosen;
            }
            return chosen;
        }

        private int firstOnTheWay(int set) {
            for (int c = 0; c < claims; c++) {
                if ((next[set] & 1 << c) != 0 && far[set | 1 << c] == far[set] - 1) {
                    return c;
                }
            }
            return NONE;
        }

        /** What the borrower gets is what is gone from the purse. */
        int gain(int set) {
            return purseBefore - purse[set];
        }

        /** The set that brings most without the forbidden ones; a row within it needs none of them. */
        int bestWithout(int forbidden) {
            int best = 0;
            for (int set = 0; set < CLAIM_SETS; set++) {
                if (reached[set] && (set & forbidden) == 0 && gain(set) > gain(best)) {
                    best = set;
                }
            }
            return best;
        }

        /** By sets: in how many of all ways (x in ten for each claim) just this one is accepted. */
        void weigh(int x) {
            Arrays.fill(weight, 0);
            weight[0] = 1;
            for (int c = 0; c < claims; c++) {
                if ((acceptedBefore & 1 << c) == 0) {
                    weighClaim(c, x);
                }
            }
        }

        private void weighClaim(int c, int x) {
            int bit = 1 << c;
            for (int set = 0; set < bit; set++) {
                if ((next[set] & bit) != 0) {
                    weight[set | bit] = weight[set] * x;
                    weight[set] *= ODDS_PARTS - x;
                } else {
                    weight[set] *= ODDS_PARTS;
                }
            }
        }

        int weightWith(int c) {
            int sum = 0;
            for (int set = 0; set < CLAIM_SETS; set++) {
                if ((set & 1 << c) != 0) {
                    sum += weight[set];
                }
            }
            return sum;
        }

        int weightInAll() {
            int sum = 0;
            for (int set = 0; set < CLAIM_SETS; set++) {
                sum += weight[set];
            }
            return sum;
        }
    }

    /** THE TEXT. It is read token by token; what may stand next is told by where it is in an item. */
    private static final class Reader {
        private static final int LETTERS = 0, NUMBER = 1, SEMICOLON = 2, WRONG = 3;
        private static final int AT_ITEM = 0, AT_HELD = 1, AT_MUST = 2, AT_WHO = 3, AT_CLASH_A = 4;
        private static final int AT_CLASH_B = 5, AT_GIVES = 6, AT_TAKES = 7, AT_RESTS = 8;
        private static final int AT_GRANTS = 9, AT_PURSE = 10, AT_END = 11;
        private static final int BLANK = 32, MOST_NUMBER = 99;

        private final int[] text;
        int length;
        private int place;
        /** What is read comes here, so that a fault leaves the village in use as it is. */
        private Village draft;
        private int where;
        private int inRow;
        private boolean heldTold;
        private boolean purseTold;
        private int clashA;
        private int tokenKind;
        /** A number's value; the letter, if letters are one alone, else 0. */
        private int tokenValue;

        Reader() {
            text = new int[MOST_BYTES];
            draft = new Village();
        }

        boolean isFull() {
            return length >= MOST_BYTES;
        }

        void append(int b) {
            if (isFull()) {
                return;
            }
            text[length] = b;
            length++;
        }

        int makeEmpty() {
            int had = length;
            length = 0;
            return had;
        }

        /** The village that was read, for one that is in use no more. */
        Village exchange(Village old) {
            Village fresh = draft;
            draft = old;
            return fresh;
        }

        /** How many items; FAULT_BASE less the fault's place. */
        int read() {
            draft.makeEmpty();
            place = 0;
            where = AT_ITEM;
            heldTold = false;
            purseTold = false;
            int items = 0;
            for (int tokens = 0; tokens < length; tokens++) {
                skipBlanks();
                if (place >= length) {
                    break;
                }
                int first = place;
                readToken();
                if (!takeToken()) {
                    return FAULT_BASE - first;
                }
                if (where == AT_ITEM) {
                    items++;
                }
            }
            return where == AT_ITEM ? items : FAULT_BASE - length;
        }

        private void skipBlanks() {
            for (; place < length; place++) {
                if (text[place] != BLANK) {
                    return;
                }
            }
        }

        private void readToken() {
            int b = text[place];
            if (isLetter(b)) {
                readLetters();
            } else if (isDigit(b)) {
                readNumber();
            } else {
                tokenKind = b == ';' ? SEMICOLON : WRONG;
                place++;
            }
        }

        private void readLetters() {
            int first = place;
            for (; place < length; place++) {
                if (!isLetter(text[place])) {
                    break;
                }
            }
            tokenKind = LETTERS;
            tokenValue = place - first == 1 ? text[first] : 0;
        }

        private void readNumber() {
            int first = place;
            int value = 0;
            for (; place < length; place++) {
                if (!isDigit(text[place])) {
                    break;
                }
                value = Math.min(value * 10 + text[place] - '0', MOST_NUMBER + 1);
            }
            boolean zeroAhead = text[first] == '0' && place - first > 1;
            tokenKind = zeroAhead || value > MOST_NUMBER ? WRONG : NUMBER;
            tokenValue = value;
        }

        private static boolean isLetter(int b) {
            return b >= 'a' && b <= 'z';
        }

        private static boolean isDigit(int b) {
            return b >= '0' && b <= '9';
        }

        /** Whether the token can stand where it stands; if so, it is taken. */
        private boolean takeToken() {
            switch (tokenKind) {
                case LETTERS: return where == AT_ITEM ? beginItem() : beginGrants();
                case NUMBER: return takeNumber();
                case SEMICOLON: return endItem();
                default: return false;
            }
        }

        private boolean beginItem() {
            inRow = 0;
            switch (tokenValue) {
                case 'h': return beginHeld();
                case 'c': return beginClause();
                case 'x': return beginClash();
                case 'm': return beginClaim();
                case 'p': return beginPurse();
                default: return false;
            }
        }

        private boolean beginHeld() {
            boolean again = heldTold;
            heldTold = true;
            where = AT_HELD;
            return !again;
        }

        private boolean beginClause() {
            if (draft.clauses >= MOST_CLAUSES) {
                return false;
            }
            draft.addClause();
            where = AT_MUST;
            return true;
        }

        private boolean beginClash() {
            where = AT_CLASH_A;
            return draft.clashes < MOST_CLASHES;
        }

        private boolean beginClaim() {
            if (draft.claims >= MOST_CLAIMS) {
                return false;
            }
            draft.addClaim();
            where = AT_GIVES;
            return true;
        }

        private boolean beginPurse() {
            boolean again = purseTold;
            purseTold = true;
            where = AT_PURSE;
            return !again;
        }

        private boolean beginGrants() {
            if (where != AT_RESTS || tokenValue != 'g') {
                return false;
            }
            inRow = 0;
            where = AT_GRANTS;
            return true;
        }

        private boolean endItem() {
            switch (where) {
                case AT_HELD:
                case AT_WHO:
                case AT_RESTS:
                case AT_GRANTS:
                case AT_END:
                    where = AT_ITEM;
                    return true;
                default:
                    return false;
            }
        }

        private boolean takeNumber() {
            switch (where) {
                case AT_GIVES:
                case AT_TAKES:
                case AT_PURSE:
                    takeCoins();
                    return true;
                case AT_MUST:
                case AT_CLASH_A:
                case AT_CLASH_B:
                    return isBelief(tokenValue) && takeOneBelief();
                case AT_HELD:
                case AT_WHO:
                case AT_RESTS:
                case AT_GRANTS:
                    return isBelief(tokenValue) && takeBeliefOfRow();
                default:
                    return false;
            }
        }

        private void takeCoins() {
            if (where == AT_PURSE) {
                draft.purseAtFirst = tokenValue;
                where = AT_END;
            } else if (where == AT_GIVES) {
                draft.gives[draft.claims - 1] = tokenValue;
                where = AT_TAKES;
            } else {
                draft.takes[draft.claims - 1] = tokenValue;
                where = AT_RESTS;
            }
        }

        private boolean takeOneBelief() {
            if (where == AT_MUST) {
                draft.mustBelieve[draft.clauses - 1] = tokenValue;
                where = AT_WHO;
                return true;
            }
            if (where == AT_CLASH_A) {
                clashA = tokenValue;
                where = AT_CLASH_B;
                return true;
            }
            draft.clashPair[draft.clashes] = 1 << clashA | 1 << tokenValue;
            draft.clashes++;
            where = AT_END;
            return clashA != tokenValue;
        }

        private boolean takeBeliefOfRow() {
            inRow++;
            int bit = 1 << tokenValue;
            if (where == AT_HELD) {
                draft.heldAtFirst |= bit;
            } else if (where == AT_WHO) {
                draft.whoBelieves[draft.clauses - 1] |= bit;
            } else if (where == AT_RESTS) {
                draft.rests[draft.claims - 1] |= bit;
            } else {
                draft.grants[draft.claims - 1] |= bit;
            }
            return inRow <= MOST_IN_ROW;
        }
    }
}
