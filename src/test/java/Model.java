import java.math.BigInteger;
import java.util.ArrayDeque;
import java.util.ArrayList;
import java.util.Arrays;
import java.util.HashSet;
import java.util.List;
import java.util.NoSuchElementException;
import java.util.Set;
import java.util.function.Predicate;
import java.util.regex.Matcher;
import java.util.regex.Pattern;

/** The document once more, word by word and without care for speed, to hold the program against. */
final class Model {
    static final class Fault extends Exception {
        final int kind;
        final int place;

        Fault(int kind, int place) {
            this.kind = kind;
            this.place = place;
        }
    }

    record Voter(String name, int street, int since) {
    }

    record Line(String name, int street, int day) {
    }

    record Facts(int day, int street, int line, int sheet, int since, int ahead) {
    }

    record Spot(int sheet, int line) {
    }

    static final class State {
        List<Voter> voters = new ArrayList<>();
        List<List<Line>> sheets = new ArrayList<>();
        Set<Integer> byHand = new HashSet<>();
        int need = 1;
        int first = 0;
        int last = 999;
        int spoilt = 100;
        int alpha = 50;
        Predicate<Facts> good = null;
        List<Set<Spot>> samples = List.of(new HashSet<>(), new HashSet<>());

        State copy() {
            State c = new State();
            c.voters = new ArrayList<>(voters);
            for (List<Line> sheet : sheets) {
                c.sheets.add(new ArrayList<>(sheet));
            }
            c.byHand = new HashSet<>(byHand);
            c.need = need;
            c.first = first;
            c.last = last;
            c.spoilt = spoilt;
            c.alpha = alpha;
            c.good = good;
            c.samples = List.of(new HashSet<>(samples.get(0)), new HashSet<>(samples.get(1)));
            return c;
        }

        List<Spot> spots() {
            List<Spot> all = new ArrayList<>();
            for (int s = 0; s < sheets.size(); s++) {
                for (int l = 0; l < sheets.get(s).size(); l++) {
                    all.add(new Spot(s, l));
                }
            }
            return all;
        }

        Line at(Spot spot) {
            return sheets.get(spot.sheet()).get(spot.line());
        }

        int voterOf(Spot spot) {
            for (int v = 0; v < voters.size(); v++) {
                if (voters.get(v).name().equals(at(spot).name()) && voters.get(v).street() == at(spot).street()) {
                    return v;
                }
            }
            return -1;
        }

        int wrong(Spot spot) {
            int v = voterOf(spot);
            if (v < 0) {
                return 1;
            }
            Line line = at(spot);
            if (line.day() < first || line.day() > last || voters.get(v).since() > line.day()) {
                return 2;
            }
            int ahead = 0;
            for (Spot other : spots()) {
                if (other.equals(spot)) {
                    break;
                }
                ahead += voterOf(other) == v ? 1 : 0;
            }
            Facts facts = new Facts(line.day(), line.street(), spot.line(), spot.sheet(), voters.get(v).since(), ahead);
            return good != null && !good.test(facts) ? 3 : 0;
        }

        boolean struck(int sheet) {
            if (byHand.contains(sheet)) {
                return true;
            }
            int all = sheets.get(sheet).size();
            int wrong = 0;
            for (int l = 0; l < all; l++) {
                wrong += wrong(new Spot(sheet, l)) > 0 ? 1 : 0;
            }
            return all > 0 && wrong * 100 > spoilt * all;
        }

        int[] judge() {
            List<Spot> all = spots();
            int[] how = new int[all.size()];
            for (int i = 0; i < how.length; i++) {
                Spot spot = all.get(i);
                how[i] = wrong(spot);
                if (how[i] == 0 && struck(spot.sheet())) {
                    how[i] = 4;
                }
                for (int j = 0; j < i && how[i] == 0; j++) {
                    if ((how[j] == 0 || how[j] == 5) && voterOf(all.get(j)) == voterOf(spot)) {
                        how[i] = 5;
                    }
                }
            }
            return how;
        }

        int count(int as) {
            return (int) Arrays.stream(judge()).filter(h -> h == as).count();
        }
    }

    State state = new State();
    final ArrayDeque<State> acts = new ArrayDeque<>();
    byte[] tape = new byte[0];
    int faultPlace = -1;
    final int[] refused = new int[3];

    private void element(boolean ok) {
        if (!ok) {
            refused[0]++;
            throw new NoSuchElementException();
        }
    }

    private void argument(boolean ok) {
        if (!ok) {
            refused[1]++;
            throw new IllegalArgumentException();
        }
    }

    private void fit(boolean ok) {
        if (!ok) {
            refused[2]++;
            throw new IllegalStateException();
        }
    }

    private static boolean in(int x, int a, int b) {
        return a <= x && x <= b;
    }

    private void act() {
        acts.addLast(state.copy());
        if (acts.size() > 8) {
            acts.removeFirst();
        }
    }

    int feed(int... numbers) {
        if (tape.length + 20 > 600) {
            return -1;
        }
        int from = tape.length;
        tape = Arrays.copyOf(tape, from + 20);
        for (int i = 0; i < 20; i++) {
            tape[from + i] = BigInteger.valueOf(numbers[i / 4]).shiftRight(24 - 8 * (i % 4)).byteValue();
        }
        return tape.length;
    }

    int text(int n) {
        argument(in(n, 0, tape.length));
        byte[] bytes = Arrays.copyOf(tape, n);
        tape = new byte[0];
        try {
            State told = new Reading(bytes).all();
            faultPlace = -1;
            act();
            state = told;
            return state.spots().size();
        } catch (Fault f) {
            faultPlace = f.place;
            return f.kind - 10;
        }
    }

    int fault() {
        return faultPlace;
    }

    int sample(int which, int n, int seed) {
        List<Spot> left = state.spots();
        argument(in(which, 0, 1) && in(n, 1, left.size()));
        act();
        Set<Spot> sample = state.samples.get(which);
        sample.clear();
        int x = seed;
        for (int i = 0; i < n; i++) {
            x = BigInteger.valueOf(x).multiply(BigInteger.valueOf(1103515245)).add(BigInteger.valueOf(12345)).intValue();
            sample.add(left.remove((x >>> 8) % left.size()));
        }
        return goodOf(which).size();
    }

    private List<Integer> goodOf(int which) {
        List<Spot> all = state.spots();
        int[] how = state.judge();
        List<Integer> voters = new ArrayList<>();
        for (int i = 0; i < how.length; i++) {
            if (state.samples.get(which).contains(all.get(i)) && (how[i] == 0 || how[i] == 5)) {
                voters.add(state.voterOf(all.get(i)));
            }
        }
        return voters;
    }

    private int pairsOf(int which) {
        List<Integer> voters = goodOf(which);
        int pairs = 0;
        for (int i = 0; i < voters.size(); i++) {
            for (int j = 0; j < i; j++) {
                pairs += voters.get(i).equals(voters.get(j)) ? 1 : 0;
            }
        }
        return pairs;
    }

    int strike(int sheet, boolean is) {
        element(in(sheet, 0, state.sheets.size() - 1));
        act();
        return (is ? state.byHand.add(sheet) : state.byHand.remove(sheet)) ? 1 : 0;
    }

    private void emptySamples() {
        state.samples.get(0).clear();
        state.samples.get(1).clear();
    }

    int sign(int sheet, int voter, int day) {
        element(in(sheet, 0, state.sheets.size() - 1) && in(voter, 0, state.voters.size() - 1));
        argument(in(day, 0, 999));
        fit(state.spots().size() < 40);
        act();
        emptySamples();
        Voter v = state.voters.get(voter);
        state.sheets.get(sheet).add(new Line(v.name(), v.street(), day));
        return state.sheets.get(sheet).size() - 1;
    }

    private int indexOf(int sheet, int line) {
        return state.spots().indexOf(new Spot(sheet, line));
    }

    int erase(int sheet, int line) {
        int index = indexOf(sheet, line);
        element(index >= 0);
        int how = state.judge()[index];
        act();
        emptySamples();
        state.sheets.get(sheet).remove(line);
        return how;
    }

    int undo() {
        if (acts.isEmpty()) {
            return -1;
        }
        state = acts.removeLast();
        return acts.size();
    }

    int told(int what) {
        argument(in(what, 0, 10));
        int bits = 0;
        for (int s = 0; s < state.sheets.size(); s++) {
            bits += state.struck(s) ? 1 << s : 0;
        }
        return new int[] {state.voters.size(), state.sheets.size(), state.spots().size(), state.need, state.first,
            state.last, state.spoilt, state.alpha, bits, tape.length, acts.size()}[what];
    }

    int voter(int voter, int what) {
        element(in(voter, 0, state.voters.size() - 1));
        argument(in(what, 0, 3));
        List<Spot> all = state.spots();
        int[] how = state.judge();
        int lines = 0;
        int trues = 0;
        for (int i = 0; i < how.length; i++) {
            if (state.voterOf(all.get(i)) == voter) {
                lines++;
                trues += how[i] == 0 ? 1 : 0;
            }
        }
        Voter v = state.voters.get(voter);
        return new int[] {v.street(), v.since(), lines, trues}[what];
    }

    int letter(int voter, int i) {
        element(in(voter, 0, state.voters.size() - 1) && in(i, 0, state.voters.get(voter).name().length() - 1));
        return state.voters.get(voter).name().charAt(i);
    }

    int sheet(int sheet, int what) {
        element(in(sheet, 0, state.sheets.size() - 1));
        argument(in(what, 0, 8));
        if (what < 3) {
            return new int[] {state.sheets.get(sheet).size(), state.struck(sheet) ? 1 : 0,
                state.byHand.contains(sheet) ? 1 : 0}[what];
        }
        int[] how = state.judge();
        int count = 0;
        for (int l = 0; l < state.sheets.get(sheet).size(); l++) {
            count += how[indexOf(sheet, l)] == what - 3 ? 1 : 0;
        }
        return count;
    }

    int line(int sheet, int line, int what) {
        int index = indexOf(sheet, line);
        element(index >= 0);
        argument(in(what, 0, 5));
        Spot spot = new Spot(sheet, line);
        return new int[] {state.at(spot).street(), state.at(spot).day(), state.voterOf(spot), state.judge()[index],
            state.samples.get(0).contains(spot) ? 1 : 0, state.samples.get(1).contains(spot) ? 1 : 0}[what];
    }

    int judged(int how) {
        argument(in(how, 0, 5));
        return state.count(how);
    }

    int passes() {
        return state.count(0) >= state.need ? 1 : 0;
    }

    static BigInteger choose(int n, int k) {
        BigInteger ways = BigInteger.ONE;
        if (k < 0 || k > n) {
            return BigInteger.ZERO;
        }
        for (int i = 0; i < k; i++) {
            ways = ways.multiply(BigInteger.valueOf(n - i)).divide(BigInteger.valueOf(i + 1));
        }
        return ways;
    }

    private boolean likely(int n, int marked, int from, int to) {
        int all = state.spots().size();
        BigInteger ways = BigInteger.ZERO;
        for (int m = from; m <= to; m++) {
            ways = ways.add(choose(marked, m).multiply(choose(all - marked, n - m)));
        }
        BigInteger bar = choose(all, n).multiply(BigInteger.valueOf(state.alpha));
        return ways.multiply(BigInteger.valueOf(1000)).compareTo(bar) > 0;
    }

    private int low(int n, int good) {
        int all = state.spots().size();
        for (int k = 0; k <= all; k++) {
            if (likely(n, k, good, all)) {
                return k;
            }
        }
        throw new AssertionError();
    }

    private int high(int n, int good) {
        for (int k = state.spots().size(); k >= 0; k--) {
            if (likely(n, k, 0, good)) {
                return k;
            }
        }
        throw new AssertionError();
    }

    private int verdict(int n, int good) {
        return low(n, good) >= state.need ? 1 : high(n, good) < state.need ? 2 : 0;
    }

    int drawn(int which, int what) {
        argument(in(which, 0, 1) && in(what, 0, 5));
        int n = state.samples.get(which).size();
        int good = goodOf(which).size();
        switch (what) {
            case 0: return n;
            case 1: return good;
            case 2: return pairsOf(which);
            default: break;
        }
        if (n == 0) {
            return -1;
        }
        return what == 3 ? low(n, good) : what == 4 ? high(n, good) : verdict(n, good);
    }

    private static long lowest(BigInteger above, BigInteger below, int what) {
        BigInteger common = above.gcd(below);
        return (what == 0 ? above : below).divide(common).longValueExact();
    }

    long estimate(int which, int what) {
        argument(in(which, 0, 1) && in(what, 0, 1));
        long n = state.samples.get(which).size();
        fit(n >= 2);
        long all = state.spots().size();
        long g = goodOf(which).size();
        long d = pairsOf(which);
        // N g / n less N (N - 1) d / (n (n - 1)), over the product of both numbers below.
        long above = all * g * (n * (n - 1)) - all * (all - 1) * d * n;
        return lowest(BigInteger.valueOf(above), BigInteger.valueOf(n * n * (n - 1)), what);
    }

    int unlike(int what) {
        argument(in(what, 0, 1));
        Set<Integer> one = new HashSet<>(goodOf(0));
        Set<Integer> other = new HashSet<>(goodOf(1));
        Set<Integer> both = new HashSet<>(one);
        both.retainAll(other);
        return both.isEmpty() ? -1 : (int) lowest(BigInteger.valueOf((long) one.size() * other.size()),
                BigInteger.valueOf(both.size()), what);
    }

    long unseen(int n, int what) {
        List<Spot> all = state.spots();
        argument(in(n, 0, all.size()) && in(what, 0, 1));
        int[] how = state.judge();
        // A good line's voter, or a number of its own for one that is not.
        int[] keys = new int[how.length];
        for (int i = 0; i < how.length; i++) {
            keys[i] = how[i] == 0 || how[i] == 5 ? state.voterOf(all.get(i)) : 100 + i;
        }
        BigInteger above = all.size() <= 12 ? BigInteger.valueOf(waysOneByOne(keys, n, 0, new HashSet<>())) : waysByVoter(keys, n);
        return lowest(above, choose(all.size(), n), what);
    }

    private static long waysOneByOne(int[] keys, int n, int from, Set<Integer> taken) {
        if (n == 0) {
            return 1;
        }
        long ways = 0;
        for (int i = from; i < keys.length; i++) {
            if (taken.add(keys[i])) {
                ways += waysOneByOne(keys, n - 1, i + 1, taken);
                taken.remove(keys[i]);
            }
        }
        return ways;
    }

    private static BigInteger waysByVoter(int[] keys, int n) {
        BigInteger[] ways = new BigInteger[n + 1];
        Arrays.fill(ways, BigInteger.ZERO);
        ways[0] = BigInteger.ONE;
        for (int key : Arrays.stream(keys).distinct().toArray()) {
            long alike = Arrays.stream(keys).filter(k -> k == key).count();
            for (int k = n; k > 0; k--) {
                ways[k] = ways[k].add(ways[k - 1].multiply(BigInteger.valueOf(alike)));
            }
        }
        return ways[n];
    }

    int fewest() {
        for (int n = 1; n <= state.spots().size(); n++) {
            if (verdict(n, n) == 1) {
                return n;
            }
        }
        return -1;
    }

    int worst(int k, int what) {
        argument(in(k, 1, 8) && in(what, 0, 1));
        int best = -1;
        int least = Integer.MAX_VALUE;
        for (int set = 0; set < 1 << state.sheets.size(); set++) {
            State struck = state.copy();
            boolean fits = Integer.bitCount(set) == k;
            for (int s = 0; s < state.sheets.size() && fits; s++) {
                if ((set >> s & 1) == 1) {
                    fits = !state.struck(s);
                    struck.byHand.add(s);
                }
            }
            if (fits && struck.count(0) < least) {
                best = set;
                least = struck.count(0);
            }
        }
        return best < 0 ? -1 : what == 0 ? best : least;
    }

    int cost(int each) {
        BigInteger product = BigInteger.valueOf(each).multiply(BigInteger.valueOf(state.spots().size()));
        argument(each >= 0 && product.bitLength() <= 31);
        return product.intValueExact();
    }

    long print() {
        BigInteger sum = BigInteger.ZERO;
        BigInteger by = BigInteger.valueOf(31);
        List<Spot> all = state.spots();
        int[] how = state.judge();
        for (int i = 0; i < how.length; i++) {
            sum = sum.multiply(by).add(BigInteger.valueOf(state.at(all.get(i)).street()));
            sum = sum.multiply(by).add(BigInteger.valueOf(how[i]));
        }
        return sum.longValue();
    }

    int status(int what) {
        return in(what, 0, 2) ? refused[what] : -1;
    }

    /** A text read token by token, the first fault thrown. */
    private static final class Reading {
        private static final Pattern TOKEN = Pattern.compile(" *([a-z]+|[0-9]+|[^ ]|$)", Pattern.DOTALL);

        private final String text;
        private final State told = new State();
        private final Set<String> once = new HashSet<>();
        private int from = 0;
        private int place;
        private String token;

        Reading(byte[] bytes) {
            StringBuilder signs = new StringBuilder();
            for (byte b : bytes) {
                signs.append((char) (b & 255));
            }
            // '$' of a pattern would also stand ahead of a line's end; such signs are strange anyway.
            text = signs.toString().replace('\n', '\1').replace('\r', '\1').replace((char) 133, '\1');
            next();
        }

        private void next() {
            Matcher m = TOKEN.matcher(text);
            m.region(from, text.length());
            if (!m.lookingAt()) {
                throw new AssertionError(text.substring(from));
            }
            token = m.group(1);
            place = m.start(1);
            from = m.end();
        }

        private boolean is(String what) {
            return token.equals(what);
        }

        private void take(String what) throws Fault {
            if (!is(what)) {
                throw new Fault(1, place);
            }
            next();
        }

        private int number(int least, int most) throws Fault {
            if (!token.matches("[0-9]+")) {
                throw new Fault(1, place);
            }
            BigInteger n = new BigInteger(token);
            if (n.compareTo(BigInteger.valueOf(least)) < 0 || n.compareTo(BigInteger.valueOf(most)) > 0) {
                throw new Fault(2, place);
            }
            next();
            return n.intValue();
        }

        private String name() throws Fault {
            if (!token.matches("[a-z]{1,5}")) {
                throw new Fault(1, place);
            }
            String name = token;
            next();
            return name;
        }

        private void many(boolean tooMany) throws Fault {
            if (tooMany) {
                throw new Fault(4, place);
            }
        }

        State all() throws Fault {
            while (!is("")) {
                one();
                take(";");
            }
            return told;
        }

        private void one() throws Fault {
            String word = token;
            if (Set.of("need", "span", "spoilt", "alpha", "good").contains(word)) {
                if (!once.add(word)) {
                    throw new Fault(1, place);
                }
                next();
                setting(word);
                return;
            }
            if (word.equals("voter")) {
                many(told.voters.size() == 16);
                next();
                int at = place;
                String name = name();
                int street = number(0, 99);
                if (told.voters.stream().anyMatch(v -> v.name().equals(name) && v.street() == street)) {
                    throw new Fault(3, at);
                }
                told.voters.add(new Voter(name, street, number(0, 999)));
            } else if (word.equals("sheet")) {
                many(told.sheets.size() == 8);
                next();
                told.sheets.add(new ArrayList<>());
            } else if (word.equals("sign") && !told.sheets.isEmpty()) {
                many(told.spots().size() == 40);
                next();
                told.sheets.get(told.sheets.size() - 1).add(new Line(name(), number(0, 99), number(0, 999)));
            } else {
                throw new Fault(1, place);
            }
        }

        private void setting(String word) throws Fault {
            switch (word) {
                case "need": told.need = number(0, 40); break;
                case "span": told.first = number(0, 999); told.last = number(told.first, 999); break;
                case "spoilt": told.spoilt = number(0, 100); break;
                case "alpha": told.alpha = number(1, 499); break;
                default: told.good = choice(0); break;
            }
        }

        private Predicate<Facts> choice(int within) throws Fault {
            Predicate<Facts> c = chain(within);
            while (is("or")) {
                next();
                c = c.or(chain(within));
            }
            return c;
        }

        private Predicate<Facts> chain(int within) throws Fault {
            Predicate<Facts> d = part(within);
            while (is("and")) {
                next();
                d = d.and(part(within));
            }
            return d;
        }

        private Predicate<Facts> part(int within) throws Fault {
            if (is("not") || is("(")) {
                if (within == 4) {
                    throw new Fault(5, place);
                }
                if (is("not")) {
                    next();
                    return part(within + 1).negate();
                }
                next();
                Predicate<Facts> c = choice(within + 1);
                take(")");
                return c;
            }
            java.util.function.ToIntFunction<Facts> left = operand();
            String sign = token;
            if (!Set.of("<", "=", ">").contains(sign)) {
                throw new Fault(1, place);
            }
            next();
            java.util.function.ToIntFunction<Facts> right = operand();
            return f -> {
                int order = Integer.compare(left.applyAsInt(f), right.applyAsInt(f));
                return sign.equals("<") ? order < 0 : sign.equals("=") ? order == 0 : order > 0;
            };
        }

        private java.util.function.ToIntFunction<Facts> operand() throws Fault {
            String word = token;
            if (word.matches("[0-9]+")) {
                int n = number(0, 999);
                return f -> n;
            }
            if (!Set.of("day", "street", "line", "sheet", "since", "ahead").contains(word)) {
                throw new Fault(1, place);
            }
            next();
            switch (word) {
                case "day": return Facts::day;
                case "street": return Facts::street;
                case "line": return Facts::line;
                case "sheet": return Facts::sheet;
                case "since": return Facts::since;
                default: return Facts::ahead;
            }
        }
    }
}
