import java.util.Arrays;
import java.util.NoSuchElementException;

/**
 * A petition checked: a roll of voters and sheets of signed lines, told as a text, judged, sampled, and taken back.
 */
public final class PetitionDesk {
    public static final int NONE = -1;

    private static final int MOST_BYTES = 600;
    private static final int MOST_VOTERS = 16;
    private static final int MOST_SHEETS = 8;
    private static final int MOST_LINES = 40;
    private static final int MOST_LETTERS = 5;
    private static final int MOST_ACTS = 8;
    private static final int MOST_NESTED = 4;
    private static final int LAST_DAY = 999;
    private static final int LAST_STREET = 99;
    private static final int GREATEST_INT = 0x7fffffff;

    private static final int TRUE = 0;
    private static final int NOBODY = 1;
    private static final int LATE = 2;
    private static final int WRONG = 3;
    private static final int STRUCK = 4;
    private static final int DOUBLE = 5;

    private final TextReader reader;
    private final Tape tape;
    private final Judgement judgement;
    private final Chances chances;
    private final Petition[] past;
    private int acts;
    private Petition now;
    private int faultPlace;
    private int refusedElements;
    private int refusedArguments;
    private int refusedStates;

    public PetitionDesk() {
        reader = new TextReader();
        tape = reader.tokens.tape;
        judgement = new Judgement();
        chances = new Chances();
        past = new Petition[MOST_ACTS];
        for (int i = 0; i < MOST_ACTS; i++) {
            past[i] = new Petition();
        }
        now = new Petition();
        faultPlace = NONE;
    }

    public int feed(int a, int b, int c, int d, int e) {
        if (!tape.hasRoom()) {
            return NONE;
        }
        tape.put(a);
        tape.put(b);
        tape.put(c);
        tape.put(d);
        tape.put(e);
        return tape.count;
    }

    public int text(int n) throws IllegalArgumentException {
        requireArgument(isFrom(n, 0, tape.count));
        boolean whole = reader.read(n);
        tape.count = 0;
        if (!whole) {
            faultPlace = reader.faultPlace;
            return reader.faultKind - 10;
        }
        faultPlace = NONE;
        keepForUndo();
        now.copyFrom(reader.draft);
        judgement.judge(now);
        return now.lines;
    }

    public int fault() {
        return faultPlace;
    }

    public int sample(int which, int n, int seed) throws IllegalArgumentException {
        requireArgument(isFrom(which, 0, 1) && isFrom(n, 1, now.lines));
        keepForUndo();
        long drawn = drawLines(n, seed);
        if (which == 0) {
            now.sample0 = drawn;
        } else {
            now.sample1 = drawn;
        }
        return judgement.goodIn(drawn);
    }

    public int strike(int sheet, boolean is) throws NoSuchElementException {
        requireFound(isSheet(sheet));
        keepForUndo();
        boolean was = now.isByHand(sheet);
        if (was == is) {
            return 0;
        }
        now.byHand ^= 1 << sheet;
        judgement.judge(now);
        return 1;
    }

    public int sign(int sheet, int voter, int day)
            throws NoSuchElementException, IllegalArgumentException, IllegalStateException {
        requireFound(isSheet(sheet) && isVoter(voter));
        requireArgument(isFrom(day, 0, LAST_DAY));
        requireState(now.lines < MOST_LINES);
        keepForUndo();
        int number = now.linesOn(sheet);
        now.addLine(sheet, now.names[voter], now.streets[voter], day);
        now.emptySamples();
        judgement.judge(now);
        return number;
    }

    public int erase(int sheet, int line) throws NoSuchElementException {
        requireFound(isLine(sheet, line));
        keepForUndo();
        int index = now.firstOf(sheet) + line;
        int how = judgement.how[index];
        now.removeLine(index);
        now.emptySamples();
        judgement.judge(now);
        return how;
    }

    public int undo() {
        if (acts <= 0) {
            return NONE;
        }
        acts--;
        Petition undone = now;
        now = past[acts];
        past[acts] = undone;
        judgement.judge(now);
        return acts;
    }

    public int told(int what) throws IllegalArgumentException {
        requireArgument(isFrom(what, 0, 10));
        switch (what) {
            case 0: return now.voters;
            case 1: return now.sheets;
            case 2: return now.lines;
            case 3: return now.need;
            case 4: return now.firstDay;
            case 5: return now.lastDay;
            case 6: return now.spoilt;
            case 7: return now.alpha;
            case 8: return judgement.struck;
            case 9: return tape.count;
            default: return acts;
        }
    }

    public int voter(int voter, int what) throws NoSuchElementException, IllegalArgumentException {
        requireFound(isVoter(voter));
        requireArgument(isFrom(what, 0, 3));
        switch (what) {
            case 0: return now.streets[voter];
            case 1: return now.since[voter];
            case 2: return judgement.linesOf(voter);
            default: return judgement.trueLinesOf(voter);
        }
    }

    public int letter(int voter, int i) throws NoSuchElementException {
        requireFound(isVoter(voter) && i >= 0 && i < Names.length(now.names[voter]));
        return Names.letterAt(now.names[voter], i);
    }

    public int sheet(int sheet, int what) throws NoSuchElementException, IllegalArgumentException {
        requireFound(isSheet(sheet));
        requireArgument(isFrom(what, 0, 8));
        int first = now.firstOf(sheet);
        int behind = now.firstOf(sheet + 1);
        switch (what) {
            case 0: return behind - first;
            case 1: return judgement.struck >> sheet & 1;
            case 2: return now.isByHand(sheet) ? 1 : 0;
            default: return judgement.countJudged(what - 3, first, behind);
        }
    }

    public int line(int sheet, int line, int what) throws NoSuchElementException, IllegalArgumentException {
        requireFound(isLine(sheet, line));
        requireArgument(isFrom(what, 0, 5));
        int index = now.firstOf(sheet) + line;
        switch (what) {
            case 0: return now.lineStreets[index];
            case 1: return now.lineDays[index];
            case 2: return judgement.voterOf[index];
            case 3: return judgement.how[index];
            case 4: return (int) (now.sample0 >> index & 1);
            default: return (int) (now.sample1 >> index & 1);
        }
    }

    public int judged(int how) throws IllegalArgumentException {
        requireArgument(isFrom(how, TRUE, DOUBLE));
        return judgement.countJudged(how, 0, now.lines);
    }

    public int passes() {
        return judgement.countJudged(TRUE, 0, now.lines) >= now.need ? 1 : 0;
    }

    public int drawn(int which, int what) throws IllegalArgumentException {
        requireArgument(isFrom(which, 0, 1) && isFrom(what, 0, 5));
        long sample = sampleOf(which);
        int n = Long.bitCount(sample);
        int good = judgement.goodIn(sample);
        if (what == 0) {
            return n;
        }
        if (what == 1) {
            return good;
        }
        if (what == 2) {
            return judgement.pairsIn(sample);
        }
        if (n == 0) {
            return NONE;
        }
        if (what == 3) {
            return chances.lowBound(now.lines, n, good, now.alpha);
        }
        if (what == 4) {
            return chances.highBound(now.lines, n, good, now.alpha);
        }
        return verdictOf(n, good);
    }

    public long estimate(int which, int what) throws IllegalArgumentException, IllegalStateException {
        requireArgument(isFrom(which, 0, 1) && isFrom(what, 0, 1));
        long sample = sampleOf(which);
        long n = Long.bitCount(sample);
        requireState(n >= 2);
        long all = now.lines;
        long good = judgement.goodIn(sample);
        long pairs = judgement.pairsIn(sample);
        long above = all * good * (n - 1) - all * (all - 1) * pairs;
        return inLowestTerms(above, n * (n - 1), what);
    }

    public int unlike(int what) throws IllegalArgumentException {
        requireArgument(isFrom(what, 0, 1));
        int one = judgement.votersIn(now.sample0);
        int other = judgement.votersIn(now.sample1);
        int both = Integer.bitCount(one & other);
        if (both == 0) {
            return NONE;
        }
        return (int) inLowestTerms(Integer.bitCount(one) * Integer.bitCount(other), both, what);
    }

    public long unseen(int n, int what) throws IllegalArgumentException {
        requireArgument(isFrom(n, 0, now.lines) && isFrom(what, 0, 1));
        judgement.tallyGood(-1L);
        long above = chances.waysWithoutPair(judgement.tally, now.lines, n);
        return inLowestTerms(above, chances.choose(now.lines, n), what);
    }

    public int fewest() {
        for (int n = 1; n <= now.lines; n++) {
            if (verdictOf(n, n) == 1) {
                return n;
            }
        }
        return NONE;
    }

    public int worst(int k, int what) throws IllegalArgumentException {
        requireArgument(isFrom(k, 1, MOST_SHEETS) && isFrom(what, 0, 1));
        int worstSet = NONE;
        int worstTrue = NONE;
        for (int set = 0; set < 1 << now.sheets; set++) {
            if (Integer.bitCount(set) == k && (set & judgement.struck) == 0) {
                int left = judgement.trueWithout(set);
                if (worstSet == NONE || left < worstTrue) {
                    worstSet = set;
                    worstTrue = left;
                }
            }
        }
        return what == 0 ? worstSet : worstTrue;
    }

    public int cost(int each) throws IllegalArgumentException {
        long product = (long) each * now.lines;
        requireArgument(each >= 0 && product <= GREATEST_INT);
        return (int) product;
    }

    public long print() {
        long sum = 0;
        for (int i = 0; i < now.lines; i++) {
            sum = 31 * sum + now.lineStreets[i];
            sum = 31 * sum + judgement.how[i];
        }
        return sum;
    }

    public int status(int what) {
        switch (what) {
            case 0: return refusedElements;
            case 1: return refusedArguments;
            case 2: return refusedStates;
            default: return NONE;
        }
    }

    private void requireFound(boolean found) {
        if (!found) {
            refusedElements++;
            throw new NoSuchElementException("no such sheet, line, voter or letter");
        }
    }

    private void requireArgument(boolean such) {
        if (!such) {
            refusedArguments++;
            throw new IllegalArgumentException("a number that is none such");
        }
    }

    private void requireState(boolean fit) {
        if (!fit) {
            refusedStates++;
            throw new IllegalStateException("not as things stand");
        }
    }

    private static boolean isFrom(int number, int least, int most) {
        return number >= least && number <= most;
    }

    private boolean isVoter(int voter) {
        return voter >= 0 && voter < now.voters;
    }

    private boolean isSheet(int sheet) {
        return sheet >= 0 && sheet < now.sheets;
    }

    private boolean isLine(int sheet, int line) {
        return isSheet(sheet) && line >= 0 && line < now.linesOn(sheet);
    }

    private long sampleOf(int which) {
        return which == 0 ? now.sample0 : now.sample1;
    }

    // The oldest row is used again for the newest act, so that no call makes a new one.
    private void keepForUndo() {
        if (acts >= MOST_ACTS) {
            Petition oldest = past[0];
            for (int i = 1; i < MOST_ACTS; i++) {
                past[i - 1] = past[i];
            }
            past[MOST_ACTS - 1] = oldest;
            acts = MOST_ACTS - 1;
        }
        past[acts].copyFrom(now);
        acts++;
    }

    private long drawLines(int n, int seed) {
        long drawn = 0;
        int x = seed;
        for (int left = now.lines; left > 0 && left > now.lines - n; left--) {
            x = x * 1103515245 + 12345;
            drawn |= 1L << indexOfUndrawn(drawn, (x >>> 8) % left);
        }
        return drawn;
    }

    private int indexOfUndrawn(long drawn, int number) {
        int passed = 0;
        for (int i = 0; i < now.lines; i++) {
            if ((drawn >> i & 1) == 0) {
                if (passed == number) {
                    return i;
                }
                passed++;
            }
        }
        return 0;
    }

    private int verdictOf(int n, int good) {
        if (chances.lowBound(now.lines, n, good, now.alpha) >= now.need) {
            return 1;
        }
        return chances.highBound(now.lines, n, good, now.alpha) < now.need ? 2 : 0;
    }

    private static long inLowestTerms(long above, long below, int what) {
        long common = Chances.commonDivisor(above, below);
        if (common == 0) {
            return 0;
        }
        return (what == 0 ? above : below) / common;
    }

    /** The bytes fed and not yet read. */
    private static final class Tape {
        private static final int FED_AT_ONCE = 20;

        final byte[] bytes = new byte[MOST_BYTES];
        int count;

        boolean hasRoom() {
            return count + FED_AT_ONCE <= MOST_BYTES;
        }

        void put(int four) {
            if (count < 0 || count + 4 > MOST_BYTES) {
                return;
            }
            bytes[count] = (byte) (four >>> 24);
            bytes[count + 1] = (byte) (four >>> 16);
            bytes[count + 2] = (byte) (four >>> 8);
            bytes[count + 3] = (byte) four;
            count += 4;
        }
    }

    /** A name as one number, five bits a letter, the first letter lowest: so names are compared and copied at once. */
    private static final class Names {
        private static final int BITS = 5;
        private static final int MASK = 31;
        private static final int BELOW_A = 'a' - 1;

        static int withLetter(int name, int i, int letter) {
            return name | (letter - BELOW_A) << BITS * i;
        }

        static int letterAt(int name, int i) {
            return (name >> BITS * i & MASK) + BELOW_A;
        }

        static int length(int name) {
            int letters = 0;
            while (letters < MOST_LETTERS && (name >> BITS * letters & MASK) != 0) {
                letters++;
            }
            return letters;
        }
    }

    /** All that an act changes and undo() gives back: the roll, the sheets with their lines in order, the settings, the samples. */
    private static final class Petition {
        int voters;
        final int[] names = new int[MOST_VOTERS];
        final int[] streets = new int[MOST_VOTERS];
        final int[] since = new int[MOST_VOTERS];
        int sheets;
        int byHand;
        int lines;
        final int[] lineNames = new int[MOST_LINES];
        final int[] lineStreets = new int[MOST_LINES];
        final int[] lineDays = new int[MOST_LINES];
        final int[] lineSheets = new int[MOST_LINES];
        int need = 1;
        int firstDay;
        int lastDay = LAST_DAY;
        int spoilt = 100;
        int alpha = 50;
        final Rule rule = new Rule();
        long sample0;
        long sample1;

        void clear() {
            voters = 0;
            sheets = 0;
            byHand = 0;
            lines = 0;
            need = 1;
            firstDay = 0;
            lastDay = LAST_DAY;
            spoilt = 100;
            alpha = 50;
            rule.count = 0;
            emptySamples();
        }

        void copyFrom(Petition other) {
            voters = other.voters;
            System.arraycopy(other.names, 0, names, 0, MOST_VOTERS);
            System.arraycopy(other.streets, 0, streets, 0, MOST_VOTERS);
            System.arraycopy(other.since, 0, since, 0, MOST_VOTERS);
            sheets = other.sheets;
            byHand = other.byHand;
            lines = other.lines;
            System.arraycopy(other.lineNames, 0, lineNames, 0, MOST_LINES);
            System.arraycopy(other.lineStreets, 0, lineStreets, 0, MOST_LINES);
            System.arraycopy(other.lineDays, 0, lineDays, 0, MOST_LINES);
            System.arraycopy(other.lineSheets, 0, lineSheets, 0, MOST_LINES);
            need = other.need;
            firstDay = other.firstDay;
            lastDay = other.lastDay;
            spoilt = other.spoilt;
            alpha = other.alpha;
            rule.copyFrom(other.rule);
            sample0 = other.sample0;
            sample1 = other.sample1;
        }

        void emptySamples() {
            sample0 = 0;
            sample1 = 0;
        }

        boolean isByHand(int sheet) {
            return (byHand >> sheet & 1) == 1;
        }

        int voterWith(int name, int street) {
            for (int i = 0; i < voters; i++) {
                if (names[i] == name && streets[i] == street) {
                    return i;
                }
            }
            return NONE;
        }

        void addVoter(int name, int street, int day) {
            if (voters < 0 || voters >= MOST_VOTERS) {
                return;
            }
            names[voters] = name;
            streets[voters] = street;
            since[voters] = day;
            voters++;
        }

        // Lines stand in order, so this is also the place behind the last line of the sheet ahead.
        int firstOf(int sheet) {
            int first = 0;
            while (first < lines && lineSheets[first] < sheet) {
                first++;
            }
            return first;
        }

        int linesOn(int sheet) {
            return firstOf(sheet + 1) - firstOf(sheet);
        }

        void addLine(int sheet, int name, int street, int day) {
            if (lines < 0 || lines >= MOST_LINES) {
                return;
            }
            int place = firstOf(sheet + 1);
            moveLines(place, place + 1, lines - place);
            lineNames[place] = name;
            lineStreets[place] = street;
            lineDays[place] = day;
            lineSheets[place] = sheet;
            lines++;
        }

        void removeLine(int index) {
            if (index < 0 || index >= lines) {
                return;
            }
            moveLines(index + 1, index, lines - index - 1);
            lines--;
        }

        private void moveLines(int from, int to, int count) {
            if (count <= 0 || from < 0 || to < 0 || Math.max(from, to) + count > MOST_LINES) {
                return;
            }
            System.arraycopy(lineNames, from, lineNames, to, count);
            System.arraycopy(lineStreets, from, lineStreets, to, count);
            System.arraycopy(lineDays, from, lineDays, to, count);
            System.arraycopy(lineSheets, from, lineSheets, to, count);
        }
    }

    /** The condition behind "good", its steps in the order in which they are carried out; no steps: none is told. */
    private static final class Rule {
        static final int NOT = -1;
        static final int AND = -2;
        static final int OR = -3;
        static final int DAY = 0;
        static final int STREET = 1;
        static final int LINE = 2;
        static final int SHEET = 3;
        static final int SINCE = 4;
        static final int AHEAD = 5;
        static final int FACTS = 6;
        // An operand below this is a number itself; from here on the facts of a line.
        static final int FIRST_FACT = 1000;
        private static final int OPERAND_BITS = 11;
        private static final int OPERAND_MASK = 2047;

        // A step takes a byte of the text at least, so there are never more.
        final int[] steps = new int[MOST_BYTES];
        int count;

        void add(int step) {
            if (count >= 0 && count < MOST_BYTES) {
                steps[count] = step;
                count++;
            }
        }

        // The order that has to stand between the two: -1, 0 or 1. One more is kept, for steps below 0 are the signs above.
        void addComparison(int left, int order, int right) {
            add((order + 1 << OPERAND_BITS | left) << OPERAND_BITS | right);
        }

        void copyFrom(Rule other) {
            count = other.count;
            if (count > 0 && count <= MOST_BYTES) {
                System.arraycopy(other.steps, 0, steps, 0, count);
            }
        }

        // What is open stands in the bits of one number, the latest lowest: four levels of nesting need eleven.
        boolean holds(int[] facts) {
            if (count == 0) {
                return true;
            }
            long open = 0;
            for (int i = 0; i < count && i < MOST_BYTES; i++) {
                int step = steps[i];
                if (step == NOT) {
                    open ^= 1;
                } else if (step == AND) {
                    open = open >>> 1 & (open & 1 | ~1L);
                } else if (step == OR) {
                    open = open >>> 1 | open & 1;
                } else {
                    open = open << 1 | (compares(step, facts) ? 1 : 0);
                }
            }
            return (open & 1) == 1;
        }

        private static boolean compares(int step, int[] facts) {
            int left = valueOf(step >> OPERAND_BITS & OPERAND_MASK, facts);
            int right = valueOf(step & OPERAND_MASK, facts);
            int order = (step >> OPERAND_BITS + OPERAND_BITS) - 1;
            if (order == 0) {
                return left == right;
            }
            return order < 0 ? left < right : left > right;
        }

        private static int valueOf(int operand, int[] facts) {
            int fact = operand - FIRST_FACT;
            return fact >= 0 && fact < facts.length ? facts[fact] : operand;
        }
    }

    /** The words, numbers and signs on the tape, each with the place of its first byte, and the end of the text. */
    private static final class Tokens {
        static final int END = 0;
        static final int VOTER = 1;
        static final int SHEET = 2;
        static final int SIGN = 3;
        static final int NEED = 4;
        static final int SPAN = 5;
        static final int SPOILT = 6;
        static final int ALPHA = 7;
        static final int GOOD = 8;
        static final int OR = 9;
        static final int AND = 10;
        static final int NOT = 11;
        static final int DAY = 12;
        static final int STREET = 13;
        static final int LINE = 14;
        static final int SINCE = 15;
        static final int AHEAD = 16;
        static final int OTHER_WORD = 17;
        static final int NUMBER = 18;
        static final int STRANGE = 19;
        // In the order of their numbers above. A sign is of the kind of its own byte, which is above all of these.
        private static final String WORDS =
                "voter sheet sign need span spoilt alpha good or and not day street line since ahead ";
        // Every number that may stand is below this; of a longer one no more digits are taken, so that it can't wrap.
        private static final int TOO_GREAT = 1000;

        // A token takes a byte of the text at least, and the end is one more.
        final int[] kinds = new int[MOST_BYTES + 1];
        final int[] places = new int[MOST_BYTES + 1];
        final int[] values = new int[MOST_BYTES + 1];
        final Tape tape = new Tape();
        private int length;
        private int count;

        void scan(int n) {
            length = Math.max(0, Math.min(n, MOST_BYTES));
            count = 0;
            for (int place = 0; place < length; place++) {
                if (isLetter(place)) {
                    if (!isLetter(place - 1)) {
                        add(kindOfWord(place), place, nameAt(place));
                    }
                } else if (isDigit(place)) {
                    if (!isDigit(place - 1)) {
                        add(NUMBER, place, numberAt(place));
                    }
                } else if (byteAt(place) != ' ') {
                    add(byteAt(place) > ' ' ? byteAt(place) : STRANGE, place, NONE);
                }
            }
            add(END, length, NONE);
        }

        private void add(int kind, int place, int value) {
            if (count < 0 || count > MOST_BYTES) {
                return;
            }
            kinds[count] = kind;
            places[count] = place;
            values[count] = value;
            count++;
        }

        private int kindOfWord(int place) {
            int kind = VOTER;
            int alike = 0;
            for (int i = 0; i < WORDS.length(); i++) {
                char letter = WORDS.charAt(i);
                if (letter != ' ') {
                    alike = alike != NONE && byteAt(place + alike) == letter ? alike + 1 : NONE;
                } else {
                    if (alike != NONE && !isLetter(place + alike)) {
                        return kind;
                    }
                    kind++;
                    alike = 0;
                }
            }
            return OTHER_WORD;
        }

        private int nameAt(int place) {
            int name = 0;
            int letters = 0;
            while (letters < MOST_LETTERS && isLetter(place + letters)) {
                name = Names.withLetter(name, letters, byteAt(place + letters));
                letters++;
            }
            return isLetter(place + letters) ? NONE : name;
        }

        private int numberAt(int place) {
            int number = 0;
            for (int i = place; i < length && isDigit(i) && number < TOO_GREAT; i++) {
                number = number * 10 + byteAt(i) - '0';
            }
            return number;
        }

        private boolean isLetter(int place) {
            return byteAt(place) >= 'a' && byteAt(place) <= 'z';
        }

        private boolean isDigit(int place) {
            return byteAt(place) >= '0' && byteAt(place) <= '9';
        }

        private int byteAt(int place) {
            return place >= 0 && place < length ? tape.bytes[place] : NONE;
        }
    }

    /** Reads a text into a draft of its own, up to the first fault. */
    private static final class TextReader {
        private static final int MISPLACED = 1;
        private static final int NO_SUCH_NUMBER = 2;
        private static final int VOTER_TWICE = 3;
        private static final int TOO_MANY = 4;
        private static final int TOO_DEEP = 5;

        final Tokens tokens = new Tokens();
        final Petition draft = new Petition();
        int faultKind;
        int faultPlace;
        private int at;
        private int onceTold;

        boolean read(int bytes) {
            begin(bytes);
            boolean isFine = true;
            for (int told = 0; told < MOST_BYTES && isFine && kind() != Tokens.END; told++) {
                switch (kind()) {
                    case Tokens.VOTER: isFine = readVoter(); break;
                    case Tokens.SHEET: isFine = readSheet(); break;
                    case Tokens.SIGN: isFine = readSigned(); break;
                    case Tokens.NEED: isFine = readNeed(); break;
                    case Tokens.SPAN: isFine = readSpan(); break;
                    case Tokens.SPOILT: isFine = readSpoilt(); break;
                    case Tokens.ALPHA: isFine = readAlpha(); break;
                    case Tokens.GOOD: isFine = takeOnce() && readChoice(0); break;
                    default: isFine = refuse(MISPLACED, place());
                }
                isFine = isFine && takeSign(';');
            }
            return isFine;
        }

        private void begin(int bytes) {
            tokens.scan(bytes);
            draft.clear();
            at = 0;
            onceTold = 0;
        }

        private boolean readVoter() {
            if (draft.voters >= MOST_VOTERS) {
                return refuse(TOO_MANY, place());
            }
            advance();
            int namePlace = place();
            int name = takeName();
            if (name == NONE) {
                return false;
            }
            int street = takeNumber(0, LAST_STREET);
            if (street == NONE) {
                return false;
            }
            // The name stands ahead of whatever may still be wrong behind the street.
            if (draft.voterWith(name, street) != NONE) {
                return refuse(VOTER_TWICE, namePlace);
            }
            int day = takeNumber(0, LAST_DAY);
            if (day == NONE) {
                return false;
            }
            draft.addVoter(name, street, day);
            return true;
        }

        private boolean readSheet() {
            if (draft.sheets >= MOST_SHEETS) {
                return refuse(TOO_MANY, place());
            }
            advance();
            draft.sheets++;
            return true;
        }

        private boolean readSigned() {
            if (draft.sheets == 0) {
                return refuse(MISPLACED, place());
            }
            if (draft.lines >= MOST_LINES) {
                return refuse(TOO_MANY, place());
            }
            advance();
            int name = takeName();
            if (name == NONE) {
                return false;
            }
            int street = takeNumber(0, LAST_STREET);
            if (street == NONE) {
                return false;
            }
            int day = takeNumber(0, LAST_DAY);
            if (day == NONE) {
                return false;
            }
            draft.addLine(draft.sheets - 1, name, street, day);
            return true;
        }

        private boolean readNeed() {
            if (!takeOnce()) {
                return false;
            }
            draft.need = takeNumber(0, MOST_LINES);
            return draft.need != NONE;
        }

        private boolean readSpan() {
            if (!takeOnce()) {
                return false;
            }
            draft.firstDay = takeNumber(0, LAST_DAY);
            if (draft.firstDay == NONE) {
                return false;
            }
            draft.lastDay = takeNumber(draft.firstDay, LAST_DAY);
            return draft.lastDay != NONE;
        }

        private boolean readSpoilt() {
            if (!takeOnce()) {
                return false;
            }
            draft.spoilt = takeNumber(0, 100);
            return draft.spoilt != NONE;
        }

        private boolean readAlpha() {
            if (!takeOnce()) {
                return false;
            }
            draft.alpha = takeNumber(1, 499);
            return draft.alpha != NONE;
        }

        private boolean readChoice(int depth) {
            if (!readChain(depth)) {
                return false;
            }
            for (int more = 0; more < MOST_BYTES && kind() == Tokens.OR; more++) {
                advance();
                if (!readChain(depth)) {
                    return false;
                }
                draft.rule.add(Rule.OR);
            }
            return true;
        }

        private boolean readChain(int depth) {
            if (!readPart(depth)) {
                return false;
            }
            for (int more = 0; more < MOST_BYTES && kind() == Tokens.AND; more++) {
                advance();
                if (!readPart(depth)) {
                    return false;
                }
                draft.rule.add(Rule.AND);
            }
            return true;
        }

        private boolean readPart(int depth) {
            boolean isNot = kind() == Tokens.NOT;
            if (!isNot && kind() != '(') {
                return readComparison();
            }
            if (depth >= MOST_NESTED) {
                return refuse(TOO_DEEP, place());
            }
            advance();
            if (!isNot) {
                return readChoice(depth + 1) && takeSign(')');
            }
            if (!readPart(depth + 1)) {
                return false;
            }
            draft.rule.add(Rule.NOT);
            return true;
        }

        private boolean readComparison() {
            int left = takeOperand();
            if (left == NONE) {
                return false;
            }
            int sign = kind();
            if (sign != '<' && sign != '=' && sign != '>') {
                return refuse(MISPLACED, place());
            }
            advance();
            int right = takeOperand();
            if (right == NONE) {
                return false;
            }
            draft.rule.addComparison(left, sign - '=', right);
            return true;
        }

        private int takeOperand() {
            boolean isNumber = kind() == Tokens.NUMBER;
            int operand = isNumber ? tokens.values[at] : factOf(kind());
            if (operand == NONE) {
                refuse(MISPLACED, place());
                return NONE;
            }
            if (isNumber && operand >= Rule.FIRST_FACT) {
                refuse(NO_SUCH_NUMBER, place());
                return NONE;
            }
            advance();
            return isNumber ? operand : Rule.FIRST_FACT + operand;
        }

        private static int factOf(int kind) {
            switch (kind) {
                case Tokens.DAY: return Rule.DAY;
                case Tokens.STREET: return Rule.STREET;
                case Tokens.LINE: return Rule.LINE;
                case Tokens.SHEET: return Rule.SHEET;
                case Tokens.SINCE: return Rule.SINCE;
                case Tokens.AHEAD: return Rule.AHEAD;
                default: return NONE;
            }
        }

        private boolean takeOnce() {
            int word = 1 << kind();
            if ((onceTold & word) != 0) {
                return refuse(MISPLACED, place());
            }
            onceTold |= word;
            advance();
            return true;
        }

        private boolean takeSign(char sign) {
            if (kind() != sign) {
                return refuse(MISPLACED, place());
            }
            advance();
            return true;
        }

        private int takeNumber(int least, int most) {
            if (kind() != Tokens.NUMBER) {
                refuse(MISPLACED, place());
                return NONE;
            }
            int number = tokens.values[at];
            if (number < least || number > most) {
                refuse(NO_SUCH_NUMBER, place());
                return NONE;
            }
            advance();
            return number;
        }

        private int takeName() {
            boolean isWord = kind() >= Tokens.VOTER && kind() <= Tokens.OTHER_WORD;
            if (!isWord || tokens.values[at] == NONE) {
                refuse(MISPLACED, place());
                return NONE;
            }
            int name = tokens.values[at];
            advance();
            return name;
        }

        private boolean refuse(int fault, int place) {
            faultKind = fault;
            faultPlace = place;
            return false;
        }

        private int kind() {
            return tokens.kinds[at];
        }

        private int place() {
            return tokens.places[at];
        }

        private void advance() {
            if (at < MOST_BYTES) {
                at++;
            }
        }
    }

    /** How the lines of a petition are judged, and what is counted of that. */
    private static final class Judgement {
        final int[] voterOf = new int[MOST_LINES];
        final int[] how = new int[MOST_LINES];
        final int[] tally = new int[MOST_VOTERS];
        int struck;
        private final int[] votersOn = new int[MOST_SHEETS];
        private final int[] facts = new int[Rule.FACTS];
        private final int[] sheetOf = new int[MOST_LINES];
        private int lines;

        void judge(Petition petition) {
            lines = Math.max(0, Math.min(petition.lines, MOST_LINES));
            findVoters(petition);
            findWrongs(petition);
            strikeSheets(petition);
            findDoubles();
        }

        private void findVoters(Petition petition) {
            for (int i = 0; i < lines; i++) {
                voterOf[i] = petition.voterWith(petition.lineNames[i], petition.lineStreets[i]);
                sheetOf[i] = petition.lineSheets[i];
            }
        }

        private void findWrongs(Petition petition) {
            Arrays.fill(tally, 0);
            int number = 0;
            for (int i = 0; i < lines; i++) {
                number = i > 0 && sheetOf[i] == sheetOf[i - 1] ? number + 1 : 0;
                how[i] = wrongOf(petition, i, number);
                if (hasVoter(i)) {
                    tally[voterOf[i]]++;
                }
            }
        }

        private int wrongOf(Petition petition, int i, int number) {
            if (!hasVoter(i)) {
                return NOBODY;
            }
            int day = petition.lineDays[i];
            int since = petition.since[voterOf[i]];
            if (day < petition.firstDay || day > petition.lastDay || since > day) {
                return LATE;
            }
            facts[Rule.DAY] = day;
            facts[Rule.STREET] = petition.lineStreets[i];
            facts[Rule.LINE] = number;
            facts[Rule.SHEET] = sheetOf[i];
            facts[Rule.SINCE] = since;
            facts[Rule.AHEAD] = tally[voterOf[i]];
            return petition.rule.holds(facts) ? TRUE : WRONG;
        }

        private void strikeSheets(Petition petition) {
            struck = petition.byHand;
            for (int sheet = 0; sheet < petition.sheets; sheet++) {
                int all = 0;
                int wrong = 0;
                for (int i = 0; i < lines; i++) {
                    if (sheetOf[i] == sheet) {
                        all++;
                        wrong += how[i] == TRUE ? 0 : 1;
                    }
                }
                if (wrong * 100 > petition.spoilt * all) {
                    struck |= 1 << sheet;
                }
            }
        }

        private void findDoubles() {
            Arrays.fill(votersOn, 0);
            int seen = 0;
            for (int i = 0; i < lines; i++) {
                if (how[i] == TRUE) {
                    int sheet = sheetOf[i];
                    int voter = 1 << voterOf[i];
                    if ((struck >> sheet & 1) == 1) {
                        how[i] = STRUCK;
                    } else if (sheet >= 0 && sheet < MOST_SHEETS) {
                        how[i] = (seen & voter) == 0 ? TRUE : DOUBLE;
                        seen |= voter;
                        votersOn[sheet] |= voter;
                    }
                }
            }
        }

        private boolean hasVoter(int i) {
            return voterOf[i] >= 0 && voterOf[i] < MOST_VOTERS;
        }

        private boolean isGood(int i) {
            return how[i] == TRUE || how[i] == DOUBLE;
        }

        private boolean isGoodIn(long set, int i) {
            return (set >> i & 1) == 1 && isGood(i) && hasVoter(i);
        }

        int countJudged(int as, int first, int behind) {
            int count = 0;
            for (int i = Math.max(0, first); i < behind && i < lines; i++) {
                count += how[i] == as ? 1 : 0;
            }
            return count;
        }

        int linesOf(int voter) {
            int count = 0;
            for (int i = 0; i < lines; i++) {
                count += voterOf[i] == voter ? 1 : 0;
            }
            return count;
        }

        int trueLinesOf(int voter) {
            int count = 0;
            for (int i = 0; i < lines; i++) {
                count += voterOf[i] == voter && how[i] == TRUE ? 1 : 0;
            }
            return count;
        }

        int goodIn(long set) {
            int count = 0;
            for (int i = 0; i < lines; i++) {
                count += isGoodIn(set, i) ? 1 : 0;
            }
            return count;
        }

        void tallyGood(long set) {
            Arrays.fill(tally, 0);
            for (int i = 0; i < lines; i++) {
                if (isGoodIn(set, i)) {
                    tally[voterOf[i]]++;
                }
            }
        }

        int pairsIn(long set) {
            tallyGood(set);
            int pairs = 0;
            for (int voter = 0; voter < MOST_VOTERS; voter++) {
                pairs += tally[voter] * (tally[voter] - 1) / 2;
            }
            return pairs;
        }

        int votersIn(long set) {
            int voters = 0;
            for (int i = 0; i < lines; i++) {
                voters |= isGoodIn(set, i) ? 1 << voterOf[i] : 0;
            }
            return voters;
        }

        // A voter with good lines has one true one, whichever sheet it is on; so the voters left are the lines true then.
        int trueWithout(int sheets) {
            int voters = 0;
            for (int sheet = 0; sheet < MOST_SHEETS; sheet++) {
                voters |= (sheets >> sheet & 1) == 0 ? votersOn[sheet] : 0;
            }
            return Integer.bitCount(voters);
        }
    }

    /** Ways to take some of at most forty things, counted exactly. */
    private static final class Chances {
        private static final int ROW = MOST_LINES + 1;

        private final long[] triangle = new long[ROW * ROW];
        private final long[] ways = new long[ROW];

        Chances() {
            for (int n = 0; n < ROW; n++) {
                triangle[n * ROW] = 1;
                for (int k = 1; k <= n; k++) {
                    triangle[n * ROW + k] = triangle[(n - 1) * ROW + k - 1] + triangle[(n - 1) * ROW + k];
                }
            }
        }

        long choose(int n, int k) {
            if (n < 0 || n > MOST_LINES || k < 0 || k > n) {
                return 0;
            }
            return triangle[n * ROW + k];
        }

        int lowBound(int all, int n, int good, int alpha) {
            long bar = alpha * choose(all, n);
            for (int marked = 0; marked < all; marked++) {
                if (1000 * waysWithMarked(all, n, marked, good, n) > bar) {
                    return marked;
                }
            }
            return all;
        }

        int highBound(int all, int n, int good, int alpha) {
            long bar = alpha * choose(all, n);
            for (int marked = all; marked > 0; marked--) {
                if (1000 * waysWithMarked(all, n, marked, 0, good) > bar) {
                    return marked;
                }
            }
            return 0;
        }

        private long waysWithMarked(int all, int n, int marked, int least, int most) {
            long sum = 0;
            for (int taken = least; taken <= most && taken <= n; taken++) {
                sum += choose(marked, taken) * choose(all - marked, n - taken);
            }
            return sum;
        }

        // Of each voter's good lines one at most is taken, of the other lines any.
        long waysWithoutPair(int[] goodOfVoter, int all, int n) {
            if (n < 0 || n > MOST_LINES) {
                return 0;
            }
            int others = all;
            for (int i = 0; i < goodOfVoter.length; i++) {
                others -= goodOfVoter[i];
            }
            for (int k = 0; k < ROW; k++) {
                ways[k] = choose(others, k);
            }
            for (int i = 0; i < goodOfVoter.length; i++) {
                for (int k = MOST_LINES; k > 0; k--) {
                    ways[k] += goodOfVoter[i] * ways[k - 1];
                }
            }
            return ways[n];
        }

        static long commonDivisor(long one, long other) {
            long a = Math.abs(one);
            long b = Math.abs(other);
            for (int i = 0; i < 200 && b != 0; i++) {
                long rest = a % b;
                a = b;
                b = rest;
            }
            return a;
        }
    }
}
