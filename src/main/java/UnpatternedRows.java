import java.util.Arrays;
import java.util.NoSuchElementException;

/** Permutations without told patterns. DOC.md says, promise by promise, what each call answers. */
public final class UnpatternedRows {
    public static final int NONE = -1;

    private static final int TOO_MUCH = -2;
    private static final int NOT_AS_MANY = -2;
    private static final int FAULTY = -10;
    private static final int FAULTY_QUESTION = -1000000000;

    private static final int PLACES = 4;
    private static final int LONGEST = 8;
    private static final int LONGEST_IN_BASIS = 6;
    private static final int LONGEST_ABOVE = 5;
    private static final int MOST_ROWS = 24;
    private static final int MOST_BYTES = 200;
    private static final int MOST_UNDONE = 20;
    private static final int MOST_AVOIDERS = 40320;

    private static final int[] FACTORIALS = {1, 1, 2, 6, 24, 120, 720, 5040, 40320};
    /** Where the permutations of each length begin, if all of them are laid out by length. */
    private static final int[] STARTS = {0, 1, 2, 4, 10, 34, 154, 874, 5914};
    /** The same for words of 64 bits, one bit a permutation. */
    private static final int[] WORD_STARTS = {0, 1, 2, 3, 4, 5, 7, 19, 98, 728};

    private static final int FAULT_STANDS = 1;
    private static final int FAULT_NUMBER = 2;
    private static final int FAULT_MANY = 3;

    private static final Word[] WORDS = Word.values();

    private final Walk walk = new Walk();
    private final Search search = new Search();
    private final Division division = new Division();
    private final Reader reader = new Reader();
    private final Question question = new Question();
    private final Growth growth = new Growth();
    private final Tree[] trees = new Tree[PLACES];
    private final Tree draft = new Tree();
    private final Basis gathered = new Basis();
    private final Basis[] formerBases = new Basis[MOST_UNDONE];
    private final int[] formerPlaces = new int[MOST_UNDONE];
    private int formers;
    private int nextFormer;
    private final Row row = new Row();
    private final Row other = new Row();
    private final int[] marked = new int[154];

    public UnpatternedRows() {
        for (int place = 0; place < PLACES; place++) {
            trees[place] = new Tree();
        }
        for (int former = 0; former < MOST_UNDONE; former++) {
            formerBases[former] = new Basis();
        }
    }

    public int feed(int a, int b, int c, int d, int e) {
        if (!reader.hasRoom()) {
            return NONE;
        }
        reader.append(a);
        reader.append(b);
        reader.append(c);
        reader.append(d);
        reader.append(e);
        return reader.held;
    }

    public int tell(int place, int n) throws IllegalArgumentException {
        checkText(isPlace(place), n);
        reader.open(n);
        if (!reader.readRows(LONGEST_IN_BASIS)) {
            return FAULTY - reader.faultKind;
        }
        gathered.clear();
        for (int at = 0; at < reader.count; at++) {
            gathered.add(reader.rows[at]);
        }
        gathered.reduce(search);
        return give(place, gathered);
    }

    public int under(int place, int n) throws IllegalArgumentException {
        checkText(isPlace(place), n);
        reader.open(n);
        if (!reader.readRows(LONGEST_ABOVE)) {
            return FAULTY - reader.faultKind;
        }
        Arrays.fill(marked, 0);
        for (int at = 0; at < reader.count; at++) {
            markBelow(reader.rows[at]);
        }
        return gatherUnmarked() ? give(place, gathered) : TOO_MUCH;
    }

    public int inflate(int n) throws IllegalArgumentException {
        checkText(true, n);
        reader.open(n);
        if (!reader.readInflated()) {
            return FAULTY - reader.faultKind;
        }
        return inflated();
    }

    public int fault() {
        return reader.faultPlace;
    }

    public int make(int place, int how, int i, int j) {
        if (!isPlace(place) || !isPlace(i) || how < 0 || how > 4 || (how == 4 && !isPlace(j))) {
            return NONE;
        }
        gathered.clear();
        if (how == 0 || how == 4) {
            gathered.addAll(trees[i].least);
        } else {
            gatherTurned(trees[i].least, how);
        }
        if (how == 4) {
            gathered.addAll(trees[j].least);
            gathered.reduce(search);
        }
        return gathered.size > MOST_ROWS ? TOO_MUCH : give(place, gathered);
    }

    public int undo() {
        if (formers == 0) {
            return NONE;
        }
        formers--;
        nextFormer = (nextFormer + MOST_UNDONE - 1) % MOST_UNDONE;
        trees[formerPlaces[nextFormer]].become(formerBases[nextFormer]);
        return formers;
    }

    public int basis(int place, int i) throws NoSuchElementException {
        Basis least = treeAt(place).least;
        if (i == NONE) {
            return least.size;
        }
        if (i < 0 || i >= least.size) {
            throw new NoSuchElementException("no such permutation of the basis");
        }
        return least.told[i];
    }

    public int many(int place, int n) throws NoSuchElementException {
        Tree tree = treeAt(place);
        checkLength(n, LONGEST);
        return tree.count(n, walk);
    }

    public int avoider(int place, int n, int i) throws NoSuchElementException {
        Tree tree = treeAt(place);
        checkLength(n, LONGEST);
        if (i < 0 || i >= tree.count(n, walk)) {
            throw new NoSuchElementException("no such avoider");
        }
        row.takeRanked(n, tree.ordered(n, walk).ranked(n, i));
        return row.told();
    }

    public int rank(int place, int permutation) throws NoSuchElementException, IllegalArgumentException {
        Tree tree = treeAt(place);
        take(row, permutation);
        if (!tree.has(row, walk)) {
            return NONE;
        }
        return tree.ordered(row.length, walk).below(row.length, row.ranked());
    }

    public int occurrences(int of, int in) throws IllegalArgumentException {
        take(row, of);
        take(other, in);
        return search.count(row, other);
    }

    public int occurrence(int of, int in, int i) throws IllegalArgumentException {
        take(row, of);
        take(other, in);
        if (i < 0 || i >= row.length || !search.finds(row, other)) {
            return NONE;
        }
        return search.chosen[i] + 1;
    }

    public int sites(int place, int permutation) throws NoSuchElementException, IllegalArgumentException {
        Tree tree = treeAt(place);
        take(row, permutation);
        if (row.length == LONGEST || !tree.has(row, walk)) {
            return NONE;
        }
        return tree.sitesAt(row.length, row.index(), walk);
    }

    public int labelled(int place, int n, int k) throws NoSuchElementException {
        Tree tree = treeAt(place);
        checkLength(n, LONGEST - 1);
        return tree.withSites(n, k, walk);
    }

    public int rule(int place, int k, int j) throws NoSuchElementException {
        return treeAt(place).childrenByRule(k, j, walk);
    }

    public int of(int permutation, int what) throws IllegalArgumentException, NoSuchElementException {
        take(row, permutation);
        switch (what) {
            case 0:
                return row.length;
            case 1:
                return division.intervals(row);
            case 2:
                return division.isSimple(row) ? 1 : 0;
            case 3:
                division.divide(row);
                return division.count;
            case 4:
                division.divide(row);
                other.pick(row, division.firstPlaces());
                return other.told();
            case 5:
                other.invert(row);
                return other.told();
            case 6:
                other.reverse(row);
                return other.told();
            case 7:
                return row.descents();
            case 8:
                return row.inversions();
            case 9:
                return row.cycles();
            default:
                throw new NoSuchElementException("nothing else is known of a permutation");
        }
    }

    public int part(int permutation, int i) throws IllegalArgumentException, NoSuchElementException {
        take(row, permutation);
        division.divide(row);
        if (i < 0 || i >= division.count) {
            throw new NoSuchElementException("no such part");
        }
        other.pick(row, division.placesOf(i));
        return other.told();
    }

    public int simples(int place, int n) throws NoSuchElementException {
        Tree tree = treeAt(place);
        checkLength(n, LONGEST);
        return tree.simple(n, walk, division);
    }

    public long recurrence(int place, int i, boolean lower) throws NoSuchElementException {
        int k = growth.shortest(treeAt(place).allCounts(walk));
        if (i == NONE) {
            return k;
        }
        if (i < 1 || i > k) {
            throw new NoSuchElementException("no such fraction");
        }
        return lower ? growth.lower(i, k) : growth.upper(i, k);
    }

    public int degree(int place) throws NoSuchElementException {
        return growth.flatAfter(treeAt(place).allCounts(walk));
    }

    public int parts(int i, int j, boolean members) throws NoSuchElementException {
        Tree one = treeAt(i);
        Tree two = treeAt(j);
        if (members) {
            return one.least.lengthOfFirstDifference(two.least);
        }
        for (int n = 0; n <= LONGEST; n++) {
            if (one.count(n, walk) != two.count(n, walk)) {
                return n;
            }
        }
        return NONE;
    }

    public int ask(int place, int length, int n) throws IllegalArgumentException {
        checkText(isPlace(place) && length >= 0 && length <= LONGEST, n);
        reader.open(n);
        if (!question.read(reader)) {
            return FAULTY_QUESTION - reader.faultKind;
        }
        return question.answer(trees[place], length, walk, division);
    }

    private static boolean isPlace(int place) {
        return place >= 0 && place < PLACES;
    }

    private Tree treeAt(int place) {
        if (!isPlace(place)) {
            throw new NoSuchElementException("no such place");
        }
        return trees[place];
    }

    private static void checkLength(int n, int longest) {
        if (n < 0 || n > longest) {
            throw new NoSuchElementException("no such length");
        }
    }

    private void checkText(boolean rest, int n) {
        if (!rest || n < 0 || n > reader.held) {
            throw new IllegalArgumentException("no such place, length or text");
        }
    }

    private static void take(Row into, int told) {
        if (!into.take(told)) {
            throw new IllegalArgumentException("no permutation");
        }
    }

    /** A place gets a class, and the one that it had is kept to be undone. */
    private int give(int place, Basis least) {
        formerBases[nextFormer].copy(trees[place].least);
        formerPlaces[nextFormer] = place;
        nextFormer = (nextFormer + 1) % MOST_UNDONE;
        formers = Math.min(formers + 1, MOST_UNDONE);
        trees[place].become(least);
        return least.size;
    }

    private void gatherTurned(Basis from, int how) {
        for (int at = 0; at < from.size; at++) {
            if (row.take(from.told[at])) {
                if (how == 1) {
                    other.reverse(row);
                } else if (how == 2) {
                    other.complement(row);
                } else {
                    other.invert(row);
                }
                gathered.add(other.told());
            }
        }
    }

    private void markBelow(int told) {
        if (!row.take(told) || row.length > LONGEST_ABOVE) {
            return;
        }
        for (int chosen = 1; chosen < 1 << row.length; chosen++) {
            other.pick(row, chosen);
            marked[STARTS[other.length] + other.index()] = 1;
        }
    }

    /**
     * Gathers the least permutations that are not marked; false if they are too many. The draft
     * tree holds the marked ones: a child there that isn't marked has only marked ones in it.
     */
    private boolean gatherUnmarked() {
        gathered.clear();
        for (int n = 0; n <= LONGEST_ABOVE; n++) {
            draft.spread(n, walk);
            int known = gathered.size;
            walk.begin(draft, n + 1, false);
            for (int seen = 0; seen < MOST_AVOIDERS && walk.next(); seen++) {
                if (!isMarked(n + 1, walk.index())) {
                    if (gathered.size == MOST_ROWS) {
                        return false;
                    }
                    gathered.add(walk.row().told());
                }
            }
            for (int at = known; at < gathered.size; at++) {
                draft.strike(gathered.told[at]);
            }
        }
        return true;
    }

    private boolean isMarked(int length, int index) {
        return length <= LONGEST_ABOVE && marked[STARTS[length] + index] != 0;
    }

    private int inflated() {
        if (!row.take(reader.head)) {
            return TOO_MUCH;
        }
        int length = 0;
        for (int at = 0; at < row.length; at++) {
            length += Row.figures(reader.rows[at]);
        }
        if (length > LONGEST) {
            return TOO_MUCH;
        }
        int told = 0;
        for (int at = 0; at < row.length; at++) {
            int below = 0;
            for (int beside = 0; beside < row.length; beside++) {
                if (row.numbers[beside] < row.numbers[at]) {
                    below += Row.figures(reader.rows[beside]);
                }
            }
            if (other.take(reader.rows[at])) {
                told = other.toldBehind(told, below);
            }
        }
        return told;
    }

    /** The words of a question; the value is the number of a VALUE, NONE of other words. */
    private enum Word {
        MANY("many", NONE), TOTAL("total", NONE), MOST("most", NONE), LEAST("least", NONE),
        OR("or", NONE), AND("and", NONE), NOT("not", NONE),
        LENGTH("length", 0), FIRST("first", 1), LAST("last", 2), DESCENTS("descents", 3),
        INVERSIONS("inversions", 4), FIXED("fixed", 5), CYCLES("cycles", 6), MAXIMA("maxima", 7),
        PEAKS("peaks", 8), SITES("sites", 9), SIMPLE("simple", 10), PARTS("parts", 11);

        final String spelt;
        final int value;

        Word(String spelt, int value) {
            this.spelt = spelt;
            this.value = value;
        }
    }

    /** One permutation. */
    private static final class Row {
        final int[] numbers = new int[LONGEST];
        int length;

        static int figures(int told) {
            int figures = 0;
            for (int rest = told; rest > 0; rest /= 10) {
                figures++;
            }
            return figures;
        }

        /** False, and this is the empty one, if no permutation is told. */
        boolean take(int told) {
            length = 0;
            int figures = figures(told);
            if (told < 0 || figures > LONGEST) {
                return false;
            }
            int seen = 0;
            int rest = told;
            for (int at = figures - 1; at >= 0; at--) {
                int number = rest % 10;
                if (number < 1 || number > figures || (seen & 1 << number) != 0) {
                    return false;
                }
                seen |= 1 << number;
                numbers[at] = number;
                rest /= 10;
            }
            length = figures;
            return true;
        }

        int told() {
            return toldBehind(0, 0);
        }

        int toldBehind(int ahead, int raisedBy) {
            int told = ahead;
            for (int at = 0; at < length; at++) {
                told = told * 10 + numbers[at] + raisedBy;
            }
            return told;
        }

        /** Which one of its length, if each is followed from the empty one by its numbers' sites. */
        int index() {
            int index = 0;
            for (int number = 1; number <= length; number++) {
                int site = 0;
                for (int at = 0; at < length && numbers[at] != number; at++) {
                    if (numbers[at] < number) {
                        site++;
                    }
                }
                index = index * number + site;
            }
            return index;
        }

        /** Which one of its length, in order. */
        int ranked() {
            int rank = 0;
            for (int at = 0; at < length; at++) {
                rank += lessBehind(at) * FACTORIALS[length - 1 - at];
            }
            return rank;
        }

        void takeRanked(int ofLength, int rank) {
            length = Math.max(0, Math.min(ofLength, LONGEST));
            int rest = rank;
            int left = (1 << length) - 1;
            for (int at = 0; at < length; at++) {
                int block = FACTORIALS[length - 1 - at];
                int number = numberLeft(left, rest / block);
                left &= ~(1 << (number - 1));
                numbers[at] = number;
                rest %= block;
            }
        }

        private static int numberLeft(int left, int skipped) {
            int toSkip = skipped;
            for (int number = 1; number <= LONGEST; number++) {
                if ((left & 1 << (number - 1)) != 0) {
                    if (toSkip == 0) {
                        return number;
                    }
                    toSkip--;
                }
            }
            return LONGEST;
        }

        int lessBehind(int place) {
            int less = 0;
            for (int at = place + 1; at < length; at++) {
                if (numbers[at] < numbers[place]) {
                    less++;
                }
            }
            return less;
        }

        /** How the numbers at the chosen places of another one stand to one another. */
        void pick(Row from, int chosen) {
            int taken = 0;
            for (int at = 0; at < from.length; at++) {
                if ((chosen & 1 << at) != 0) {
                    numbers[taken] = 1 + from.lessAmong(at, chosen);
                    taken++;
                }
            }
            length = taken;
        }

        private int lessAmong(int place, int chosen) {
            int less = 0;
            for (int at = 0; at < length; at++) {
                if ((chosen & 1 << at) != 0 && numbers[at] < numbers[place]) {
                    less++;
                }
            }
            return less;
        }

        /** Another one with a number greater than all put in. */
        void raise(Row from, int site) {
            if (from.length >= LONGEST || site < 0 || site > from.length) {
                return;
            }
            length = from.length + 1;
            for (int at = 0; at < site; at++) {
                numbers[at] = from.numbers[at];
            }
            numbers[site] = length;
            for (int at = site; at < from.length; at++) {
                numbers[at + 1] = from.numbers[at];
            }
        }

        /** The greatest number goes from its place to one further behind. */
        void slideGreatest(int from, int to) {
            if (from < 0 || to >= length) {
                return;
            }
            for (int at = from; at < to; at++) {
                numbers[at] = numbers[at + 1];
            }
            numbers[to] = length;
        }

        void invert(Row from) {
            length = from.length;
            for (int at = 0; at < length; at++) {
                numbers[from.numbers[at] - 1] = at + 1;
            }
        }

        void reverse(Row from) {
            length = from.length;
            for (int at = 0; at < length; at++) {
                numbers[at] = from.numbers[length - 1 - at];
            }
        }

        void complement(Row from) {
            length = from.length;
            for (int at = 0; at < length; at++) {
                numbers[at] = length + 1 - from.numbers[at];
            }
        }

        int first() {
            return length == 0 ? 0 : numbers[0];
        }

        int last() {
            return length == 0 ? 0 : numbers[length - 1];
        }

        int descents() {
            int descents = 0;
            for (int at = 1; at < length; at++) {
                if (numbers[at - 1] > numbers[at]) {
                    descents++;
                }
            }
            return descents;
        }

        int inversions() {
            int inversions = 0;
            for (int at = 0; at < length; at++) {
                inversions += lessBehind(at);
            }
            return inversions;
        }

        int fixed() {
            int fixed = 0;
            for (int at = 0; at < length; at++) {
                if (numbers[at] == at + 1) {
                    fixed++;
                }
            }
            return fixed;
        }

        int cycles() {
            int cycles = 0;
            int seen = 0;
            for (int at = 0; at < length; at++) {
                if ((seen & 1 << at) == 0) {
                    cycles++;
                }
                int on = at;
                for (int step = 0; step < length && (seen & 1 << on) == 0; step++) {
                    seen |= 1 << on;
                    on = numbers[on] - 1;
                }
            }
            return cycles;
        }

        int maxima() {
            int maxima = 0;
            int greatest = 0;
            for (int at = 0; at < length; at++) {
                if (numbers[at] > greatest) {
                    greatest = numbers[at];
                    maxima++;
                }
            }
            return maxima;
        }

        int peaks() {
            int peaks = 0;
            for (int at = 1; at + 1 < length; at++) {
                if (numbers[at] > numbers[at - 1] && numbers[at] > numbers[at + 1]) {
                    peaks++;
                }
            }
            return peaks;
        }
    }

    /** Intervals of a permutation, and the parts that it is made of. */
    private static final class Division {
        /** Where each part begins; behind the last one, the length. */
        final int[] starts = new int[LONGEST + 1];
        int count;

        void divide(Row row) {
            count = 0;
            if (row.length < 2) {
                close(row.length);
                return;
            }
            cutRising(row);
            if (count < 2) {
                cutFalling(row);
            }
            if (count < 2) {
                cutIntervals(row);
            }
        }

        private void close(int end) {
            if (end > 0 && count < LONGEST) {
                count++;
                starts[count] = end;
            }
        }

        private void cutRising(Row row) {
            count = 0;
            int greatest = 0;
            for (int at = 0; at < row.length; at++) {
                if (row.numbers[at] > greatest) {
                    greatest = row.numbers[at];
                }
                if (greatest == at + 1) {
                    close(at + 1);
                }
            }
        }

        private void cutFalling(Row row) {
            count = 0;
            int least = LONGEST + 1;
            for (int at = 0; at < row.length; at++) {
                if (row.numbers[at] < least) {
                    least = row.numbers[at];
                }
                if (least == row.length - at) {
                    close(at + 1);
                }
            }
        }

        /** A part goes as far as an interval from its first place goes: any other one lies in it. */
        private void cutIntervals(Row row) {
            count = 0;
            int from = 0;
            for (int cut = 0; cut < LONGEST && from < row.length; cut++) {
                from = endOfGreatest(row, from);
                close(from);
            }
        }

        private static int endOfGreatest(Row row, int from) {
            int end = from + 1;
            int bound = from == 0 ? row.length - 1 : row.length;
            int least = row.numbers[from];
            int greatest = least;
            for (int at = from + 1; at < bound; at++) {
                int number = row.numbers[at];
                if (number < least) {
                    least = number;
                } else if (number > greatest) {
                    greatest = number;
                }
                if (greatest - least == at - from) {
                    end = at + 1;
                }
            }
            return end;
        }

        int firstPlaces() {
            int chosen = 0;
            for (int at = 0; at < count; at++) {
                chosen |= 1 << starts[at];
            }
            return chosen;
        }

        int placesOf(int part) {
            if (part < 0 || part >= count) {
                return 0;
            }
            return (1 << starts[part + 1]) - (1 << starts[part]);
        }

        /** Of two places or more. */
        int intervals(Row row) {
            int intervals = 0;
            for (int from = 0; from < row.length; from++) {
                intervals += intervalsFrom(row, from);
            }
            return intervals;
        }

        private static int intervalsFrom(Row row, int from) {
            int intervals = 0;
            int least = row.numbers[from];
            int greatest = least;
            for (int at = from + 1; at < row.length; at++) {
                int number = row.numbers[at];
                if (number < least) {
                    least = number;
                } else if (number > greatest) {
                    greatest = number;
                }
                if (greatest - least == at - from) {
                    intervals++;
                }
            }
            return intervals;
        }

        boolean isSimple(Row row) {
            return row.length >= 4 && !hasPair(row) && intervals(row) == 1;
        }

        /** Most that aren't simple are told by two places, sooner than by all intervals. */
        private static boolean hasPair(Row row) {
            for (int at = 1; at < row.length; at++) {
                int step = row.numbers[at] - row.numbers[at - 1];
                if (step == 1 || step == -1) {
                    return true;
                }
            }
            return false;
        }
    }

    /** Occurrences of one permutation in another one. */
    private static final class Search {
        final int[] chosen = new int[LONGEST];
        private final Row sought = new Row();
        private final Row whole = new Row();

        int count(Row of, Row in) {
            return countFrom(of, in, 0);
        }

        private int countFrom(Row of, Row in, int depth) {
            if (depth >= of.length) {
                return 1;
            }
            int found = 0;
            for (int at = firstFrom(depth); at + of.length - depth <= in.length; at++) {
                if (fits(of, in, depth, at)) {
                    chosen[depth] = at;
                    found += countFrom(of, in, depth + 1);
                }
            }
            return found;
        }

        /** Leaves the places of the first occurrence chosen. */
        boolean finds(Row of, Row in) {
            return findsFrom(of, in, 0);
        }

        private boolean findsFrom(Row of, Row in, int depth) {
            if (depth >= of.length) {
                return true;
            }
            for (int at = firstFrom(depth); at + of.length - depth <= in.length; at++) {
                if (fits(of, in, depth, at)) {
                    chosen[depth] = at;
                    if (findsFrom(of, in, depth + 1)) {
                        return true;
                    }
                }
            }
            return false;
        }

        private int firstFrom(int depth) {
            return depth == 0 ? 0 : chosen[depth - 1] + 1;
        }

        private boolean fits(Row of, Row in, int depth, int at) {
            for (int before = 0; before < depth; before++) {
                boolean rises = of.numbers[before] < of.numbers[depth];
                if (rises != in.numbers[chosen[before]] < in.numbers[at]) {
                    return false;
                }
            }
            return true;
        }

        boolean isIn(int of, int in) {
            return sought.take(of) && whole.take(in) && finds(sought, whole);
        }
    }

    /** Permutations in order, each once; room for two bases, since two classes may meet. */
    private static final class Basis {
        final int[] told = new int[2 * MOST_ROWS];
        int size;

        void clear() {
            size = 0;
        }

        void copy(Basis from) {
            size = from.size;
            System.arraycopy(from.told, 0, told, 0, size);
        }

        void add(int permutation) {
            int at = size;
            while (at > 0 && told[at - 1] > permutation) {
                at--;
            }
            if (size >= told.length || (at > 0 && told[at - 1] == permutation)) {
                return;
            }
            for (int behind = size; behind > at; behind--) {
                told[behind] = told[behind - 1];
            }
            told[at] = permutation;
            size++;
        }

        void addAll(Basis from) {
            for (int at = 0; at < from.size; at++) {
                add(from.told[at]);
            }
        }

        /** Keeps those in which no other one is; what is in one stands ahead of it. */
        void reduce(Search search) {
            int kept = 0;
            for (int at = 0; at < size; at++) {
                boolean least = true;
                for (int ahead = 0; ahead < kept && least; ahead++) {
                    least = !search.isIn(told[ahead], told[at]);
                }
                if (least) {
                    told[kept] = told[at];
                    kept++;
                }
            }
            size = kept;
        }

        boolean isSame(Basis with) {
            return lengthOfFirstDifference(with) == NONE;
        }

        /** Of the least permutation that only one of them has: there the classes part. */
        int lengthOfFirstDifference(Basis with) {
            int both = Math.min(size, with.size);
            for (int at = 0; at < both; at++) {
                if (told[at] != with.told[at]) {
                    return Row.figures(Math.min(told[at], with.told[at]));
                }
            }
            if (size == with.size) {
                return NONE;
            }
            return Row.figures(size > both ? told[both] : with.told[both]);
        }
    }

    /**
     * The avoiders of a class as a tree: for each one, by its index, the sites at which it has a
     * child. It grows length by length, and only as far as it is asked for.
     */
    private static final class Tree {
        final Basis least = new Basis();
        final int[] sitesOf = new int[5914];
        private final int[][] labels = new int[LONGEST][LONGEST + 1];
        private final int[] counts = new int[LONGEST + 1];
        private final int[] simpleCounts = new int[LONGEST + 1];
        private final Order order = new Order();
        private final Row struck = new Row();
        /** The sites of all avoiders of lengths below this one are known. */
        private int grown;

        Tree() {
            counts[0] = 1;
            Arrays.fill(simpleCounts, NONE);
        }

        /** What has grown stays if the class is the one that it was. */
        void become(Basis basis) {
            if (least.isSame(basis)) {
                return;
            }
            least.copy(basis);
            grown = 0;
            Arrays.fill(simpleCounts, NONE);
            order.forget();
        }

        void grow(int lengths, Walk walk) {
            for (int n = grown; n < lengths && n < LONGEST; n++) {
                spread(n, walk);
                for (int at = 0; at < least.size; at++) {
                    if (Row.figures(least.told[at]) == n + 1) {
                        strike(least.told[at]);
                    }
                }
            }
        }

        /** Sites of the avoiders of a length, as if the basis had none that is longer. */
        void spread(int n, Walk walk) {
            if (n < 0 || n >= LONGEST) {
                return;
            }
            for (int at = STARTS[n]; at < STARTS[n + 1]; at++) {
                sitesOf[at] = 0;
            }
            Arrays.fill(labels[n], 0);
            counts[n + 1] = 0;
            walk.begin(this, n, true);
            for (int seen = 0; seen < MOST_AVOIDERS && walk.next(); seen++) {
                int sites = walk.sitesLeftByShorter();
                int label = Integer.bitCount(sites);
                sitesOf[STARTS[n] + walk.index()] = sites;
                labels[n][label]++;
                counts[n + 1] += label;
            }
            grown = n + 1;
        }

        /** A least one that isn't in the class: its parent has not that child. */
        void strike(int told) {
            int length = Row.figures(told);
            if (length < 1 || length > LONGEST || !struck.take(told)) {
                return;
            }
            int index = struck.index();
            int parent = STARTS[length - 1] + index / length;
            int site = 1 << index % length;
            if ((sitesOf[parent] & site) != 0) {
                int label = Integer.bitCount(sitesOf[parent]);
                sitesOf[parent] &= ~site;
                labels[length - 1][label]--;
                labels[length - 1][label - 1]++;
                counts[length]--;
            }
        }

        int count(int n, Walk walk) {
            grow(n, walk);
            return counts[n];
        }

        int[] allCounts(Walk walk) {
            grow(LONGEST, walk);
            return counts;
        }

        boolean has(Row row, Walk walk) {
            if (row.length == 0) {
                return true;
            }
            grow(row.length, walk);
            int index = row.index();
            int sites = sitesOf[STARTS[row.length - 1] + index / row.length];
            return (sites & 1 << index % row.length) != 0;
        }

        int sitesAt(int n, int index, Walk walk) {
            if (n < 0 || n >= LONGEST || index < 0 || index >= FACTORIALS[n]) {
                return 0;
            }
            grow(n + 1, walk);
            return sitesOf[STARTS[n] + index];
        }

        int withSites(int n, int k, Walk walk) {
            grow(n + 1, walk);
            return k < 0 || k > LONGEST ? 0 : labels[n][k];
        }

        Order ordered(int n, Walk walk) {
            grow(n, walk);
            order.learn(this, n, walk);
            return order;
        }

        int simple(int n, Walk walk, Division division) {
            grow(n, walk);
            if (simpleCounts[n] == NONE) {
                int found = 0;
                walk.begin(this, n, false);
                for (int seen = 0; seen < MOST_AVOIDERS && walk.next(); seen++) {
                    if (division.isSimple(walk.row())) {
                        found++;
                    }
                }
                simpleCounts[n] = found;
            }
            return simpleCounts[n];
        }

        /** How many children with j sites each one with k sites has, if all have as many. */
        int childrenByRule(int k, int j, Walk walk) {
            grow(LONGEST, walk);
            if (k == 0) {
                return hasBarren() ? 0 : NONE;
            }
            int due = NONE;
            for (int n = 0; n < LONGEST - 1; n++) {
                for (int index = 0; index < FACTORIALS[n]; index++) {
                    if (Integer.bitCount(sitesOf[STARTS[n] + index]) == k) {
                        int found = childrenWith(n, index, j);
                        if (due != NONE && found != due) {
                            return NOT_AS_MANY;
                        }
                        due = found;
                    }
                }
            }
            return due;
        }

        private boolean hasBarren() {
            for (int n = 0; n < LONGEST - 1; n++) {
                if (labels[n][0] > 0) {
                    return true;
                }
            }
            return false;
        }

        private int childrenWith(int n, int index, int j) {
            int sites = sitesOf[STARTS[n] + index];
            int firstChild = STARTS[n + 1] + index * (n + 1);
            int found = 0;
            for (int site = 0; site <= n; site++) {
                if ((sites & 1 << site) != 0 && Integer.bitCount(sitesOf[firstChild + site]) == j) {
                    found++;
                }
            }
            return found;
        }
    }

    /** Goes through all avoiders of a length, each from its parent. */
    private static final class Walk {
        private static final int MOST_STEPS = 1000000;

        private final Row[] rows = new Row[LONGEST + 1];
        private final int[] indices = new int[LONGEST + 1];
        /** At each depth, the sites whose children are still to be seen. */
        private final int[] waiting = new int[LONGEST + 1];
        /** At each depth, where its row has the greatest number; NONE if it isn't of this parent. */
        private final int[] greatestAt = new int[LONGEST + 1];
        /** At each depth, the indices of what stays if one place is taken out. */
        private final int[][] shorter = new int[LONGEST + 1][LONGEST];
        private Tree tree;
        private int goal;
        private int depth;
        private boolean tracing;
        private boolean fresh;

        Walk() {
            for (int length = 0; length <= LONGEST; length++) {
                rows[length] = new Row();
            }
        }

        /** The tree must have grown up to the goal, and must not grow while the walk goes on. */
        void begin(Tree through, int ofLength, boolean traced) {
            tree = through;
            goal = Math.max(0, Math.min(ofLength, LONGEST));
            tracing = traced;
            fresh = true;
            depth = 0;
            waiting[0] = goal > 0 ? through.sitesOf[0] : 0;
            greatestAt[1] = NONE;
        }

        Row row() {
            return rows[goal];
        }

        int index() {
            return indices[goal];
        }

        boolean next() {
            if (goal == 0) {
                boolean only = fresh;
                fresh = false;
                return only;
            }
            if (depth == goal) {
                depth--;
            }
            for (int step = 0; step < MOST_STEPS && depth >= 0; step++) {
                int sites = waiting[depth];
                if (sites == 0) {
                    depth--;
                } else {
                    int lowest = sites & -sites;
                    waiting[depth] = sites - lowest;
                    descend(Integer.bitCount(lowest - 1));
                    if (depth == goal) {
                        return true;
                    }
                }
            }
            return false;
        }

        private void descend(int site) {
            int length = depth + 1;
            if (greatestAt[length] == NONE) {
                rows[length].raise(rows[depth], site);
            } else {
                rows[length].slideGreatest(greatestAt[length], site);
            }
            greatestAt[length] = site;
            indices[length] = indices[depth] * length + site;
            if (tracing) {
                trace(length, site);
            }
            if (length < goal && tree != null) {
                waiting[length] = tree.sitesOf[STARTS[length] + indices[length]];
                greatestAt[length + 1] = NONE;
            }
            depth = length;
        }

        /** Taking out a place leaves the parent, or a child of what its taking leaves of the parent. */
        private void trace(int length, int site) {
            int[] above = shorter[length - 1];
            int[] here = shorter[length];
            for (int at = 0; at < site; at++) {
                here[at] = above[at] * (length - 1) + site - 1;
            }
            here[site] = indices[length - 1];
            for (int at = site + 1; at < length; at++) {
                here[at] = above[at - 1] * (length - 1) + site;
            }
        }

        /** The sites at which a child has no place that, taken out, leaves one that is no avoider. */
        int sitesLeftByShorter() {
            int sites = (2 << goal) - 1;
            if (tree == null || goal == 0) {
                return sites;
            }
            int start = STARTS[goal - 1];
            for (int at = 0; at < goal && sites != 0; at++) {
                int left = tree.sitesOf[start + shorter[goal][at]];
                int upToPlace = left & ((2 << at) - 1);
                int behindPlace = (left >> at) << (at + 1);
                sites &= upToPlace | behindPlace;
            }
            return sites;
        }
    }

    /** Avoiders of each length in order: a bit for each permutation, set if it is an avoider. */
    private static final class Order {
        private final long[] bits = new long[728];
        private final int[] code = new int[LONGEST];
        private int known;

        void forget() {
            known = 0;
        }

        void learn(Tree tree, int n, Walk walk) {
            if (n < 0 || n > LONGEST || (known & 1 << n) != 0) {
                return;
            }
            known |= 1 << n;
            for (int at = WORD_STARTS[n]; at < WORD_STARTS[n + 1]; at++) {
                bits[at] = 0;
            }
            if (n == 0) {
                set(0, 0);
                return;
            }
            walk.begin(tree, n - 1, false);
            for (int seen = 0; seen < MOST_AVOIDERS && walk.next(); seen++) {
                learnChildren(walk.row(), tree.sitesOf[STARTS[n - 1] + walk.index()]);
            }
        }

        /**
         * The rank of each child from that of the one whose greatest number stands one place further
         * behind: only this number and the one that it passes weigh otherwise.
         */
        private void learnChildren(Row parent, int sites) {
            int length = parent.length;
            int rank = 0;
            for (int at = 0; at < length; at++) {
                code[at] = parent.lessBehind(at);
                rank += code[at] * FACTORIALS[length - at];
            }
            for (int site = length; site >= 0; site--) {
                if ((sites & 1 << site) != 0) {
                    set(length + 1, rank);
                }
                if (site > 0) {
                    int near = FACTORIALS[length - site];
                    int far = FACTORIALS[length - site + 1];
                    rank += code[site - 1] * (near - far);
                    rank += (length - site + 1) * far - (length - site) * near;
                }
            }
        }

        private void set(int n, int rank) {
            bits[WORD_STARTS[n] + (rank >> 6)] |= 1L << (rank & 63);
        }

        /** How many avoiders of a length stand ahead of the permutation of a rank. */
        int below(int n, int rank) {
            int last = WORD_STARTS[n] + (rank >> 6);
            int below = Long.bitCount(bits[last] & ((1L << (rank & 63)) - 1));
            for (int at = WORD_STARTS[n]; at < last; at++) {
                below += Long.bitCount(bits[at]);
            }
            return below;
        }

        /** The rank, among all permutations of a length, of the i-th avoider. */
        int ranked(int n, int i) {
            int toSkip = i;
            for (int at = WORD_STARTS[n]; at < WORD_STARTS[n + 1]; at++) {
                int held = Long.bitCount(bits[at]);
                if (toSkip < held) {
                    return ((at - WORD_STARTS[n]) << 6) + bitAt(bits[at], toSkip);
                }
                toSkip -= held;
            }
            return 0;
        }

        private static int bitAt(long word, int skipped) {
            int toSkip = skipped;
            for (int bit = 0; bit < 64; bit++) {
                if ((word >> bit & 1) != 0) {
                    if (toSkip == 0) {
                        return bit;
                    }
                    toSkip--;
                }
            }
            return 0;
        }
    }

    /** The tape, its tokens, and the texts that are rows. */
    private static final class Reader {
        /** Kinds of tokens; any other token is its byte. */
        static final int END = -1;
        static final int WORD = -2;
        static final int NUMBER = -3;

        private final int[] tape = new int[MOST_BYTES];
        int held;
        private int end;
        int kind;
        private int start;
        private int stop;
        int faultKind;
        int faultPlace = NONE;
        final int[] rows = new int[MOST_ROWS];
        int count;
        int head;

        boolean hasRoom() {
            return held + 20 <= MOST_BYTES;
        }

        void append(int four) {
            for (int shift = 24; shift >= 0 && held < MOST_BYTES; shift -= 8) {
                tape[held] = four >> shift & 255;
                held++;
            }
        }

        /** The text is the first n bytes; the tape counts as empty from here on. */
        void open(int n) {
            end = Math.max(0, Math.min(n, held));
            held = 0;
            stop = 0;
            faultKind = 0;
            faultPlace = NONE;
            count = 0;
            advance();
        }

        void advance() {
            int at = stop;
            while (at < end && (tape[at] == ' ' || tape[at] == '\n')) {
                at++;
            }
            start = at;
            if (at >= end) {
                kind = END;
            } else if (isLetter(tape[at])) {
                kind = WORD;
                while (at < end && isLetter(tape[at])) {
                    at++;
                }
            } else if (isFigure(tape[at])) {
                kind = NUMBER;
                while (at < end && isFigure(tape[at])) {
                    at++;
                }
            } else {
                kind = tape[at];
                at++;
            }
            stop = at;
        }

        private static boolean isLetter(int sign) {
            return sign >= 'a' && sign <= 'z';
        }

        private static boolean isFigure(int sign) {
            return sign >= '0' && sign <= '9';
        }

        boolean refuse(int kindOfFault) {
            faultKind = kindOfFault;
            faultPlace = start;
            return false;
        }

        boolean readRows(int longest) {
            if (kind == END) {
                return true;
            }
            for (int more = 0; more <= MOST_ROWS; more++) {
                if (!readRow(longest, MOST_ROWS)) {
                    return false;
                }
                if (kind == END) {
                    return true;
                }
                if (kind != ',') {
                    return refuse(FAULT_STANDS);
                }
                advance();
            }
            return refuse(FAULT_MANY);
        }

        boolean readInflated() {
            if (!readRow(LONGEST, MOST_ROWS)) {
                return false;
            }
            head = rows[0];
            count = 0;
            if (kind != '[') {
                return refuse(FAULT_STANDS);
            }
            int due = Row.figures(head);
            for (int more = 0; more <= due; more++) {
                advance();
                if (!readRow(LONGEST, due)) {
                    return false;
                }
                if (kind == ']' && count == due) {
                    advance();
                    return kind == END || refuse(FAULT_STANDS);
                }
                if (kind != ',') {
                    return refuse(FAULT_STANDS);
                }
            }
            return refuse(FAULT_MANY);
        }

        private boolean readRow(int longest, int most) {
            if (kind != NUMBER) {
                return refuse(FAULT_STANDS);
            }
            int told = toldRow(longest);
            if (told == 0) {
                return refuse(FAULT_NUMBER);
            }
            if (count >= most || count >= MOST_ROWS) {
                return refuse(FAULT_MANY);
            }
            rows[count] = told;
            count++;
            advance();
            return true;
        }

        /** 0: the number tells no permutation, or a longer one. */
        private int toldRow(int longest) {
            int length = stop - start;
            if (length > longest) {
                return 0;
            }
            int told = 0;
            int seen = 0;
            for (int at = start; at < stop; at++) {
                int number = tape[at] - '0';
                if (number < 1 || number > length || (seen & 1 << number) != 0) {
                    return 0;
                }
                seen |= 1 << number;
                told = told * 10 + number;
            }
            return told;
        }

        /** What the number says, or one more than the bound if it is above it. */
        int numberUpTo(int bound) {
            int number = 0;
            for (int at = start; at < stop; at++) {
                number = Math.min(number * 10 + tape[at] - '0', bound + 1);
            }
            return number;
        }

        /** Null: the token is no word that is told. */
        Word word() {
            if (kind == WORD) {
                for (int at = 0; at < WORDS.length; at++) {
                    if (isSpelt(WORDS[at].spelt)) {
                        return WORDS[at];
                    }
                }
            }
            return null;
        }

        boolean isWord(Word due) {
            return kind == WORD && isSpelt(due.spelt);
        }

        private boolean isSpelt(String spelt) {
            int length = spelt.length();
            if (stop - start != length) {
                return false;
            }
            for (int at = 0; at < length; at++) {
                if (tape[start + at] != spelt.charAt(at)) {
                    return false;
                }
            }
            return true;
        }
    }

    /** A question, read into a row of acts on a stack, and its answer. */
    private static final class Question {
        private static final int MOST_OPEN = 6;
        private static final int GREATEST_NUMBER = 999;
        /** Acts from this one on put a value on the stack, those from 0 on a number. */
        private static final int FIRST_VALUE = 1000;
        private static final int VALUES = 12;
        private static final int NOT = -1;
        private static final int AND = -2;
        private static final int OR = -3;
        private static final int LESS = -4;
        private static final int SAME = -5;
        private static final int MORE = -6;
        private static final int PLUS = -7;
        private static final int MINUS = -8;
        private static final int TIMES = -9;

        private final int[] acts = new int[MOST_BYTES];
        private int count;
        private final int[] stack = new int[MOST_BYTES];
        private final int[] values = new int[VALUES];
        private final int[] wanted = new int[VALUES];
        private int wantedCount;
        private Word head;

        boolean read(Reader reader) {
            count = 0;
            wantedCount = 0;
            head = reader.word();
            if (head != Word.MANY && head != Word.TOTAL && head != Word.MOST && head != Word.LEAST) {
                return reader.refuse(FAULT_STANDS);
            }
            reader.advance();
            boolean stands = head == Word.MANY ? readTest(reader, 0) : readSum(reader, 0);
            return stands && (reader.kind == Reader.END || reader.refuse(FAULT_STANDS));
        }

        private void act(int act) {
            if (count < acts.length) {
                acts[count] = act;
                count++;
            }
        }

        /** So that each value is found once, however often it is used. */
        private void want(int value) {
            for (int at = 0; at < wantedCount; at++) {
                if (wanted[at] == value) {
                    return;
                }
            }
            if (wantedCount < VALUES) {
                wanted[wantedCount] = value;
                wantedCount++;
            }
        }

        private boolean readTest(Reader reader, int open) {
            if (!readBoth(reader, open)) {
                return false;
            }
            for (int more = 0; more < MOST_BYTES && reader.isWord(Word.OR); more++) {
                reader.advance();
                if (!readBoth(reader, open)) {
                    return false;
                }
                act(OR);
            }
            return true;
        }

        private boolean readBoth(Reader reader, int open) {
            if (!readFact(reader, open)) {
                return false;
            }
            for (int more = 0; more < MOST_BYTES && reader.isWord(Word.AND); more++) {
                reader.advance();
                if (!readFact(reader, open)) {
                    return false;
                }
                act(AND);
            }
            return true;
        }

        private boolean readFact(Reader reader, int open) {
            if (reader.isWord(Word.NOT)) {
                if (!opens(reader, open) || !readFact(reader, open + 1)) {
                    return false;
                }
                act(NOT);
                return true;
            }
            if (reader.kind == '{') {
                return opens(reader, open) && readTest(reader, open + 1) && closes(reader, '}');
            }
            return readComparison(reader, open);
        }

        private boolean readComparison(Reader reader, int open) {
            if (!readSum(reader, open)) {
                return false;
            }
            int sign = reader.kind;
            if (sign != '<' && sign != '=' && sign != '>') {
                return reader.refuse(FAULT_STANDS);
            }
            reader.advance();
            if (!readSum(reader, open)) {
                return false;
            }
            act(sign == '<' ? LESS : sign == '=' ? SAME : MORE);
            return true;
        }

        private boolean readSum(Reader reader, int open) {
            if (!readProduct(reader, open)) {
                return false;
            }
            for (int more = 0; more < MOST_BYTES && (reader.kind == '+' || reader.kind == '-'); more++) {
                int act = reader.kind == '+' ? PLUS : MINUS;
                reader.advance();
                if (!readProduct(reader, open)) {
                    return false;
                }
                act(act);
            }
            return true;
        }

        private boolean readProduct(Reader reader, int open) {
            if (!readFactor(reader, open)) {
                return false;
            }
            for (int more = 0; more < MOST_BYTES && reader.kind == '*'; more++) {
                reader.advance();
                if (!readFactor(reader, open)) {
                    return false;
                }
                act(TIMES);
            }
            return true;
        }

        private boolean readFactor(Reader reader, int open) {
            if (reader.kind == '(') {
                return opens(reader, open) && readSum(reader, open + 1) && closes(reader, ')');
            }
            if (reader.kind == Reader.NUMBER) {
                int number = reader.numberUpTo(GREATEST_NUMBER);
                if (number > GREATEST_NUMBER) {
                    return reader.refuse(FAULT_NUMBER);
                }
                act(number);
            } else {
                Word word = reader.word();
                if (word == null || word.value < 0 || word.value >= VALUES) {
                    return reader.refuse(FAULT_STANDS);
                }
                want(word.value);
                act(FIRST_VALUE + word.value);
            }
            reader.advance();
            return true;
        }

        private static boolean opens(Reader reader, int open) {
            if (open >= MOST_OPEN) {
                return reader.refuse(FAULT_MANY);
            }
            reader.advance();
            return true;
        }

        private static boolean closes(Reader reader, int sign) {
            if (reader.kind != sign) {
                return reader.refuse(FAULT_STANDS);
            }
            reader.advance();
            return true;
        }

        int answer(Tree tree, int length, Walk walk, Division division) {
            tree.grow(length + 1, walk);
            int answer = 0;
            walk.begin(tree, length, false);
            for (int seen = 0; seen < MOST_AVOIDERS && walk.next(); seen++) {
                int sites = length < LONGEST ? tree.sitesOf[STARTS[length] + walk.index()] : 0;
                look(walk.row(), Integer.bitCount(sites), division);
                int value = evaluate();
                if (head == Word.MANY || head == Word.TOTAL) {
                    answer += value;
                } else if (seen == 0 || (head == Word.MOST ? value > answer : value < answer)) {
                    answer = value;
                }
            }
            return answer;
        }

        private void look(Row row, int sites, Division division) {
            for (int at = 0; at < wantedCount; at++) {
                values[wanted[at]] = valueOf(wanted[at], row, sites, division);
            }
        }

        /** The value with a word's number, see Word. */
        private static int valueOf(int value, Row row, int sites, Division division) {
            switch (value) {
                case 0:
                    return row.length;
                case 1:
                    return row.first();
                case 2:
                    return row.last();
                case 3:
                    return row.descents();
                case 4:
                    return row.inversions();
                case 5:
                    return row.fixed();
                case 6:
                    return row.cycles();
                case 7:
                    return row.maxima();
                case 8:
                    return row.peaks();
                case 9:
                    return sites;
                case 10:
                    return division.isSimple(row) ? 1 : 0;
                default:
                    division.divide(row);
                    return division.count;
            }
        }

        private int evaluate() {
            int top = 0;
            for (int at = 0; at < count; at++) {
                int act = acts[at];
                if (act >= 0 && top < stack.length) {
                    stack[top] = act < FIRST_VALUE ? act : values[act - FIRST_VALUE];
                    top++;
                } else if (act == NOT && top > 0) {
                    stack[top - 1] = 1 - stack[top - 1];
                } else if (top > 1) {
                    top--;
                    stack[top - 1] = join(act, stack[top - 1], stack[top]);
                }
            }
            return stack[0];
        }

        private static int join(int act, int left, int right) {
            switch (act) {
                case AND:
                    return left & right;
                case OR:
                    return left | right;
                case LESS:
                    return left < right ? 1 : 0;
                case SAME:
                    return left == right ? 1 : 0;
                case MORE:
                    return left > right ? 1 : 0;
                case PLUS:
                    return left + right;
                case MINUS:
                    return left - right;
                default:
                    return left * right;
            }
        }
    }

    /** How the counts of a class grow. */
    private static final class Growth {
        private static final int LONGEST_RECURRENCE = 3;
        private static final int GREATEST_DEGREE = 5;

        /** Equations, the last number of each being what the others make. */
        private final long[][] table = new long[LONGEST][LONGEST_RECURRENCE + 1];
        private final int[] differences = new int[LONGEST + 1];

        /** The least k for which there is just one recurrence; its fractions stay in the table. */
        int shortest(int[] counts) {
            for (int k = 1; k <= LONGEST_RECURRENCE; k++) {
                lay(counts, k);
                if (solve(k)) {
                    return k;
                }
            }
            return NONE;
        }

        private void lay(int[] counts, int k) {
            for (int n = k + 1; n <= LONGEST; n++) {
                for (int back = 1; back <= k; back++) {
                    table[n - k - 1][back - 1] = counts[n - back];
                }
                table[n - k - 1][k] = counts[n];
            }
        }

        private boolean solve(int k) {
            long divisor = 1;
            for (int column = 0; column < k; column++) {
                if (!bringPivot(column, k)) {
                    return false;
                }
                clearColumn(column, k, divisor);
                divisor = table[column][column];
            }
            for (int at = k; at < LONGEST - k; at++) {
                if (table[at][k] != 0) {
                    return false;
                }
            }
            return true;
        }

        private boolean bringPivot(int column, int k) {
            for (int at = column; at < LONGEST - k; at++) {
                if (table[at][column] != 0) {
                    for (int swapped = 0; swapped <= k; swapped++) {
                        long one = table[at][swapped];
                        table[at][swapped] = table[column][swapped];
                        table[column][swapped] = one;
                    }
                    return true;
                }
            }
            return false;
        }

        /** Bareiss: the former pivot divides all, so that the numbers stay whole and small. */
        private void clearColumn(int column, int k, long divisor) {
            long pivot = table[column][column];
            for (int at = 0; at < LONGEST - k && divisor != 0; at++) {
                long factor = table[at][column];
                for (int on = 0; on <= k && at != column; on++) {
                    table[at][on] = (pivot * table[at][on] - factor * table[column][on]) / divisor;
                }
            }
        }

        long upper(int i, int k) {
            return shortened(table[i - 1][k], table[i - 1][i - 1], i);
        }

        long lower(int i, int k) {
            return shortened(table[i - 1][i - 1], table[i - 1][k], i);
        }

        /** One of a fraction's two numbers, in lowest terms, with the sign that makes the lower one greater than 0. */
        private long shortened(long number, long with, int i) {
            long divisor = number;
            long rest = with;
            for (int step = 0; step < 1000 && rest != 0; step++) {
                long left = divisor % rest;
                divisor = rest;
                rest = left;
            }
            divisor = Math.abs(divisor);
            if (divisor == 0) {
                return 0;
            }
            return (table[i - 1][i - 1] < 0 ? -number : number) / divisor;
        }

        /** How often differences can be made before all are the same. */
        int flatAfter(int[] counts) {
            for (int n = 1; n <= LONGEST; n++) {
                differences[n] = counts[n];
            }
            for (int made = 0; made <= GREATEST_DEGREE; made++) {
                boolean flat = true;
                for (int n = 1; n < LONGEST - made; n++) {
                    differences[n] = differences[n + 1] - differences[n];
                    flat = flat && differences[n] == 0;
                }
                if (flat) {
                    return made;
                }
            }
            return NONE;
        }
    }
}
