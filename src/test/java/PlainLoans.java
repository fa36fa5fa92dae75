import java.math.BigInteger;
import java.util.ArrayList;
import java.util.List;
import java.util.TreeSet;

/**
 * The document once more, in its slowest and plainest form: sets of numbers, every row of claims
 * tried out one by one, fractions as they stand. ModelTest holds PotLoans against it.
 */
final class PlainLoans {
    static final int BAD = -1, STATE = -2, FULL = -3, NONE = -9, NO = -1000000;

    private record Clause(int must, TreeSet<Integer> who) { }

    private record Claim(int gives, int takes, TreeSet<Integer> rests, TreeSet<Integer> grants) { }

    private record State(TreeSet<Integer> held, TreeSet<Integer> accepted, int purse, int refusals) { }

    private record Image(State state, List<State> earlier) { }

    private static final class Fault extends Exception {
        private static final long serialVersionUID = 1L;
        private final int place;

        Fault(int place) {
            this.place = place;
        }
    }

    private static final class Told {
        TreeSet<Integer> held = null;
        Integer purse = null;
        final List<Clause> clauses = new ArrayList<>();
        final List<int[]> clashes = new ArrayList<>();
        final List<Claim> claims = new ArrayList<>();
        int items;
    }

    /** Looks at one token ahead. */
    private static final class Tokens {
        private final String text;
        private int first;
        private String token;

        Tokens(String text) {
            this.text = text;
            lookFrom(0);
        }

        private void lookFrom(int from) {
            first = from;
            while (first < text.length() && text.charAt(first) == ' ') {
                first++;
            }
            int end = first;
            while (end < text.length() && Character.toString(text.charAt(end)).matches("[a-z]")) {
                end++;
            }
            while (end < text.length() && text.substring(first, end + 1).matches("[0-9]+")) {
                end++;
            }
            if (end == first && first < text.length()) {
                end++;
            }
            token = text.substring(first, end);
        }

        boolean atEnd() {
            return token.isEmpty();
        }

        boolean is(String what) {
            return token.equals(what);
        }

        boolean isNumber() {
            return token.matches("[0-9]+");
        }

        void next() {
            lookFrom(first + token.length());
        }

        void must(boolean can) throws Fault {
            if (!can) {
                throw new Fault(atEnd() ? text.length() : first);
            }
        }

        int number(int most) throws Fault {
            must(token.matches("0|[1-9][0-9]?"));
            int n = Integer.parseInt(token);
            must(n <= most);
            next();
            return n;
        }

        TreeSet<Integer> beliefs() throws Fault {
            TreeSet<Integer> set = new TreeSet<>();
            for (int i = 0; isNumber(); i++) {
                must(i < 8);
                set.add(number(7));
            }
            return set;
        }
    }

    private String text = "";
    private Told told = new Told();
    private State state = new State(new TreeSet<>(), new TreeSet<>(), 50, 0);
    private List<State> earlier = new ArrayList<>();
    private Image[] images = new Image[2];
    private List<int[]> heard = new ArrayList<>();
    private long trace;

    // ---- the village

    int type(int c) {
        if (c < 0 || c > 255) {
            return BAD;
        }
        if (text.length() == 220) {
            return FULL;
        }
        text += (char) c;
        return text.length();
    }

    int clear() {
        int had = text.length();
        text = "";
        return had;
    }

    int village() {
        try {
            told = readAll(new Tokens(text));
        } catch (Fault fault) {
            return -10 - fault.place;
        }
        text = "";
        state = new State(told.held == null ? new TreeSet<>() : told.held, new TreeSet<>(), purseAtFirst(), 0);
        earlier = new ArrayList<>();
        images = new Image[2];
        heard = new ArrayList<>();
        return told.items;
    }

    private int purseAtFirst() {
        return told.purse == null ? 50 : told.purse;
    }

    private static Told readAll(Tokens t) throws Fault {
        Told all = new Told();
        while (!t.atEnd()) {
            readItem(t, all);
            t.must(t.is(";"));
            t.next();
            all.items++;
        }
        return all;
    }

    private static void readItem(Tokens t, Told all) throws Fault {
        if (t.is("h")) {
            t.must(all.held == null);
            t.next();
            all.held = t.beliefs();
        } else if (t.is("c")) {
            t.must(all.clauses.size() < 8);
            t.next();
            all.clauses.add(new Clause(t.number(7), t.beliefs()));
        } else if (t.is("x")) {
            t.must(all.clashes.size() < 8);
            t.next();
            int a = t.number(7);
            t.must(!t.is("" + a));
            all.clashes.add(new int[] {a, t.number(7)});
        } else if (t.is("m")) {
            t.must(all.claims.size() < 6);
            t.next();
            int gives = t.number(99);
            int takes = t.number(99);
            TreeSet<Integer> rests = t.beliefs();
            TreeSet<Integer> grants = new TreeSet<>();
            if (t.is("g")) {
                t.next();
                grants = t.beliefs();
            }
            all.claims.add(new Claim(gives, takes, rests, grants));
        } else {
            t.must(t.is("p") && all.purse == null);
            t.next();
            all.purse = t.number(99);
        }
    }

    int claim(int c, int what) {
        if (noClaim(c)) {
            return BAD;
        }
        Claim m = told.claims.get(c);
        boolean was = state.accepted.contains(c);
        return switch (what) {
            case 0 -> m.gives;
            case 1 -> m.takes;
            case 2 -> bits(m.rests);
            case 3 -> bits(m.grants);
            case 4 -> was ? 1 : 0;
            case 5 -> was ? 5 : how(c, state.held, state.purse);
            default -> BAD;
        };
    }

    int clause(int c, int what) {
        if (c < 0 || c >= told.clauses.size()) {
            return BAD;
        }
        Clause k = told.clauses.get(c);
        return switch (what) {
            case 0 -> k.must;
            case 1 -> bits(k.who);
            case 2 -> believes(state.held).containsAll(k.who) ? 1 : 0;
            default -> BAD;
        };
    }

    int now(int what) {
        TreeSet<Integer> would = new TreeSet<>();
        for (int c = 0; c < told.claims.size(); c++) {
            if (accepts(state, c)) {
                would.add(c);
            }
        }
        return switch (what) {
            case 0 -> bits(state.held);
            case 1 -> bits(believes(state.held));
            case 2 -> state.purse;
            case 3 -> bits(state.accepted);
            case 4 -> state.refusals;
            case 5 -> caught(state.held) ? 1 : 0;
            case 6 -> bits(would);
            default -> BAD;
        };
    }

    // ---- what is done

    int makes(int c) {
        if (noClaim(c)) {
            return BAD;
        }
        if (state.accepted.contains(c) || state.refusals == 999) {
            return STATE;
        }
        int how = how(c, state.held, state.purse);
        become(how <= 1 ? behind(state, c) : new State(state.held, state.accepted, state.purse, state.refusals + 1));
        return how;
    }

    int recants(int b) {
        if (b < 0 || b > 7) {
            return BAD;
        }
        if (!state.held.contains(b)) {
            return STATE;
        }
        TreeSet<Integer> held = new TreeSet<>(state.held);
        held.remove(b);
        become(new State(held, state.accepted, state.purse, state.refusals));
        return bits(held);
    }

    int holds(int b) {
        if (b < 0 || b > 7) {
            return BAD;
        }
        if (state.held.contains(b)) {
            return STATE;
        }
        TreeSet<Integer> held = new TreeSet<>(state.held);
        held.add(b);
        become(new State(held, state.accepted, state.purse, state.refusals));
        return bits(believes(held));
    }

    int undo() {
        if (earlier.isEmpty()) {
            return STATE;
        }
        state = earlier.remove(earlier.size() - 1);
        return earlier.size();
    }

    private void become(State next) {
        earlier.add(state);
        if (earlier.size() > 10) {
            earlier.remove(0);
        }
        state = next;
    }

    // ---- what follows

    int steps(int b) {
        if (b < 0 || b > 7) {
            return BAD;
        }
        int never = 1000;
        int[] steps = new int[8];
        for (int i = 0; i < 8; i++) {
            steps[i] = state.held.contains(i) ? 0 : never;
        }
        for (int turn = 0; turn < 20; turn++) {
            for (Clause k : told.clauses) {
                int greatest = 0;
                for (int i : k.who) {
                    greatest = Math.max(greatest, steps[i]);
                }
                steps[k.must] = Math.min(steps[k.must], greatest + 1);
            }
        }
        return steps[b] >= never ? NONE : steps[b];
    }

    int would(int set) {
        return set < 0 || set > 255 ? BAD : bits(believes(numbers(set)));
    }

    int together(int what) {
        if (what != 0 && what != 1) {
            return BAD;
        }
        int many = NONE;
        int first = NONE;
        for (int set = 0; set < 256; set++) {
            TreeSet<Integer> all = believes(numbers(set));
            boolean better = all.size() > many || all.size() == many && bits(all) < first;
            if (!caught(numbers(set)) && better) {
                many = all.size();
                first = bits(all);
            }
        }
        return what == 0 ? many : first;
    }

    // ---- rows of claims

    int row(int c, int i) {
        if (noClaim(c) || i < -1 || state.accepted.contains(c)) {
            return BAD;
        }
        List<Integer> best = null;
        for (List<Integer> row : allRows()) {
            boolean ends = !row.isEmpty() && row.get(row.size() - 1) == c;
            if (ends && (best == null || row.size() < best.size())) {
                best = row;
            }
        }
        if (best == null) {
            return NONE;
        }
        return i == -1 ? best.size() : i < best.size() ? best.get(i) : NONE;
    }

    /** Every row of claims each of which is accepted; of the same length the first by numbers first. */
    private List<List<Integer>> allRows() {
        List<List<Integer>> rows = new ArrayList<>();
        extend(state, new ArrayList<>(), rows);
        return rows;
    }

    private void extend(State s, List<Integer> row, List<List<Integer>> rows) {
        rows.add(row);
        for (int c = 0; c < told.claims.size(); c++) {
            if (accepts(s, c)) {
                List<Integer> longer = new ArrayList<>(row);
                longer.add(c);
                extend(behind(s, c), longer, rows);
            }
        }
    }

    private int gets(List<Integer> row) {
        int sum = 0;
        for (int c : row) {
            sum += told.claims.get(c).takes - told.claims.get(c).gives;
        }
        return sum;
    }

    int haul(int what) {
        if (what != 0 && what != 1) {
            return BAD;
        }
        int most = 0;
        int which = 0;
        for (List<Integer> row : allRows()) {
            int set = bits(new TreeSet<>(row));
            if (gets(row) > most || gets(row) == most && set < which) {
                most = gets(row);
                which = set;
            }
        }
        return what == 0 ? most : which;
    }

    int forbid(int v) {
        if (v < 0 || v > 999) {
            return BAD;
        }
        List<List<Integer>> rows = allRows();
        for (int few = 0; few <= 6; few++) {
            for (int set = 0; set < 1 << told.claims.size(); set++) {
                boolean can = Integer.bitCount(set) == few && (set & bits(state.accepted)) == 0;
                if (can && mostWithout(rows, numbers(set)) <= v) {
                    return set;
                }
            }
        }
        throw new IllegalStateException("nothing to forbid");
    }

    private int mostWithout(List<List<Integer>> rows, TreeSet<Integer> forbidden) {
        int most = 0;
        for (List<Integer> row : rows) {
            if (row.stream().noneMatch(forbidden::contains)) {
                most = Math.max(most, gets(row));
            }
        }
        return most;
    }

    int odds(int c, int x, int what) {
        if (noClaim(c) || x < 0 || x > 10 || what != 0 && what != 1) {
            return BAD;
        }
        if (state.accepted.contains(c)) {
            return 1;
        }
        BigInteger upper = BigInteger.ZERO;
        int claims = told.claims.size();
        BigInteger lower = BigInteger.TEN.pow(claims);
        for (int made = 0; made < 1 << claims; made++) {
            State s = state;
            BigInteger weight = BigInteger.ONE;
            for (int m = 0; m < claims; m++) {
                boolean comes = (made & 1 << m) != 0;
                weight = weight.multiply(BigInteger.valueOf(comes ? x : 10 - x));
                if (comes && accepts(s, m)) {
                    s = behind(s, m);
                }
            }
            if (s.accepted.contains(c)) {
                upper = upper.add(weight);
            }
        }
        BigInteger shared = upper.gcd(lower);
        return (what == 0 ? upper : lower).divide(shared).intValueExact();
    }

    // ---- what he believed

    int tells(int c, int how) {
        if (noClaim(c) || how < 0 || how > 4) {
            return BAD;
        }
        if (heard.size() == 6) {
            return FULL;
        }
        heard.add(new int[] {c, how});
        return heard.size();
    }

    int forget() {
        int had = heard.size();
        heard.clear();
        return had;
    }

    int believed(int what) {
        if (what < 0 || what > 2) {
            return BAD;
        }
        List<Integer> sets = new ArrayList<>();
        for (int set = 0; set < 256; set++) {
            TreeSet<Integer> held = numbers(set);
            if (!caught(held) && heard.stream().allMatch(h -> how(h[0], held, purseAtFirst()) == h[1])) {
                sets.add(set);
            }
        }
        if (what == 0) {
            return sets.size();
        }
        if (sets.isEmpty()) {
            return NONE;
        }
        return what == 1 ? sets.get(0) : sets.stream().reduce(255, (a, b) -> a & b);
    }

    // ---- kinds, images

    int mark(int kind, int c) {
        if (kind < 0 || kind > 5 || noClaim(c)) {
            return NO;
        }
        Claim m = told.claims.get(c);
        int[] traces = {1, 11, 101, 1011, 10101, 100001};
        int[] marks = {m.gives, m.gives + m.rests.size(), m.gives - m.takes, 2 * (m.gives + m.rests.size()),
            m.gives - m.takes + m.grants.size(), m.gives + state.refusals};
        trace += traces[kind];
        return marks[kind];
    }

    int keep(int image) {
        if (image != 0 && image != 1) {
            return BAD;
        }
        images[image] = new Image(state, new ArrayList<>(earlier));
        return state.purse;
    }

    int back(int image) {
        if (image != 0 && image != 1) {
            return BAD;
        }
        if (images[image] == null) {
            return STATE;
        }
        state = images[image].state;
        earlier = new ArrayList<>(images[image].earlier);
        return state.purse;
    }

    int count(int what) {
        return switch (what) {
            case 0 -> told.clauses.size();
            case 1 -> told.clashes.size();
            case 2 -> told.claims.size();
            case 3 -> heard.size();
            case 4 -> earlier.size();
            case 5 -> text.length();
            default -> BAD;
        };
    }

    long trace() {
        return trace;
    }

    // ---- the terms

    private boolean noClaim(int c) {
        return c < 0 || c >= told.claims.size();
    }

    private static int bits(TreeSet<Integer> set) {
        int sum = 0;
        for (int n : set) {
            sum += 1 << n;
        }
        return sum;
    }

    private static TreeSet<Integer> numbers(int set) {
        TreeSet<Integer> numbers = new TreeSet<>();
        for (int n = 0; n < 8; n++) {
            if ((set >> n & 1) == 1) {
                numbers.add(n);
            }
        }
        return numbers;
    }

    private TreeSet<Integer> believes(TreeSet<Integer> held) {
        TreeSet<Integer> all = new TreeSet<>(held);
        boolean more = true;
        while (more) {
            more = false;
            for (Clause k : told.clauses) {
                if (all.containsAll(k.who)) {
                    more |= all.add(k.must);
                }
            }
        }
        return all;
    }

    private boolean caught(TreeSet<Integer> held) {
        TreeSet<Integer> all = believes(held);
        return told.clashes.stream().anyMatch(x -> all.contains(x[0]) && all.contains(x[1]));
    }

    private int how(int c, TreeSet<Integer> held, int purse) {
        Claim m = told.claims.get(c);
        TreeSet<Integer> too = new TreeSet<>(held);
        too.addAll(m.grants);
        return m.takes > purse + m.gives ? 3
            : caught(too) ? 2
            : believes(held).containsAll(m.rests) ? 1
            : m.gives > m.takes ? 0 : 4;
    }

    private boolean accepts(State s, int c) {
        return !s.accepted.contains(c) && how(c, s.held, s.purse) <= 1;
    }

    private State behind(State s, int c) {
        Claim m = told.claims.get(c);
        TreeSet<Integer> held = new TreeSet<>(s.held);
        held.addAll(m.grants);
        TreeSet<Integer> accepted = new TreeSet<>(s.accepted);
        accepted.add(c);
        return new State(held, accepted, s.purse + m.gives - m.takes, s.refusals);
    }
}
