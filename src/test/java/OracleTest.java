import java.math.BigInteger;
import java.util.ArrayDeque;
import java.util.ArrayList;
import java.util.Arrays;
import java.util.Collections;
import java.util.HashMap;
import java.util.HashSet;
import java.util.LinkedHashSet;
import java.util.List;
import java.util.Map;
import java.util.NoSuchElementException;
import java.util.Random;
import java.util.Set;
import java.util.TreeSet;
import java.util.concurrent.ConcurrentHashMap;
import java.util.stream.IntStream;

/**
 * Runs of seeded calls on UnpatternedRows and on a slow model that follows the document's words:
 * every answer and every exception must be the same.
 */
public final class OracleTest {
    private static final int RUNS = 400;
    private static final int CALLS = 200;

    /** Answers that the runs must have come upon, or they would show too little. */
    private static final String[] NEEDED = {
        "feed -1", "feed 200", "tell -11", "tell -12", "tell -13", "tell 0", "tell 24", "tell throws.IllegalArgumentException",
        "under -2", "under -11", "under -12", "under -13", "under 1", "under 24", "under throws.IllegalArgumentException",
        "inflate -2", "inflate -11", "inflate -12", "inflate -13", "inflate 1", "inflate throws.IllegalArgumentException",
        "fault -1", "fault 0", "make -1", "make -2", "make 0", "make 24", "undo -1", "undo 0", "undo 19",
        "basis throws.NoSuchElementException", "many 40320", "many 0", "many throws.NoSuchElementException",
        "avoider 0", "avoider throws.NoSuchElementException", "rank -1", "rank 0", "rank throws.NoSuchElementException",
        "rank throws.IllegalArgumentException", "occurrences 0", "occurrences throws.IllegalArgumentException",
        "occurrence -1", "occurrence 1", "occurrence throws.IllegalArgumentException", "sites -1", "sites 0",
        "sites throws.NoSuchElementException", "sites throws.IllegalArgumentException", "labelled 0", "labelled 5040",
        "labelled throws.NoSuchElementException", "rule -1", "rule -2", "rule 0", "rule 2", "rule throws.NoSuchElementException",
        "of 0", "of throws.IllegalArgumentException", "of throws.NoSuchElementException", "part 1",
        "part throws.IllegalArgumentException", "part throws.NoSuchElementException", "simples 0", "simples 2",
        "simples throws.NoSuchElementException", "recurrence -1", "recurrence 1", "recurrence 2", "recurrence 3",
        "recurrence throws.NoSuchElementException", "degree -1", "degree 0", "degree 1", "degree 2", "degree 3",
        "degree throws.NoSuchElementException", "parts -1", "parts 1", "parts 2", "parts 5", "parts 6",
        "parts throws.NoSuchElementException", "ask 0", "ask -1000000001", "ask -1000000002", "ask -1000000003",
        "ask throws.IllegalArgumentException"};
    private static final Set<String> SEEN = ConcurrentHashMap.newKeySet();

    interface Call {
        long on();
    }

    public static void main(String[] args) {
        int runs = args.length > 0 ? Integer.parseInt(args[0]) : RUNS;
        int first = args.length > 1 ? Integer.parseInt(args[1]) : 0;
        List<String> wrong = Collections.synchronizedList(new ArrayList<>());
        IntStream.range(first, first + runs).parallel().forEach(seed -> {
            String found = new Run(seed).go();
            if (found != null) {
                wrong.add(found);
            }
        });
        for (String one : wrong) {
            System.out.println(one);
        }
        int missing = 0;
        for (String needed : NEEDED) {
            if (!SEEN.contains(needed)) {
                missing++;
                System.out.println("no run came upon " + needed);
            }
        }
        System.out.println(runs + " runs against the model, " + wrong.size() + " wrong, " + missing + " answers not come upon");
        if (!wrong.isEmpty() || missing > 0) {
            System.exit(1);
        }
    }

    /** One run: the same calls on the class and on the model. */
    static final class Run {
        final Random random;
        final int seed;
        final UnpatternedRows real = new UnpatternedRows();
        final Model model = new Model();
        final Texts texts;
        final StringBuilder story = new StringBuilder();

        Run(int seed) {
            this.seed = seed;
            random = new Random(seed * 7919L + 13);
            texts = new Texts(random);
        }

        String go() {
            for (int call = 0; call < CALLS; call++) {
                String found = one();
                if (found != null) {
                    return "seed " + seed + ", call " + call + ": " + found + story;
                }
            }
            return null;
        }

        String same(String name, Call onReal, Call onModel) {
            String got = outcome(onReal);
            String due = outcome(onModel);
            SEEN.add(name.substring(0, name.indexOf('(')) + " " + due);
            if (story.length() < 6000) {
                story.append("\n   ").append(name).append(" -> ").append(due);
            }
            return got.equals(due) ? null : name + " answered " + got + ", due is " + due;
        }

        static String outcome(Call call) {
            try {
                return Long.toString(call.on());
            } catch (RuntimeException e) {
                return "throws." + e.getClass().getSimpleName();
            }
        }

        int place() {
            return random.nextInt(30) == 0 ? new int[] {-1, 4, 77, Integer.MIN_VALUE, Integer.MAX_VALUE}[random.nextInt(5)]
                    : random.nextInt(4);
        }

        int small(int from, int to) {
            return random.nextInt(40) == 0 ? new int[] {Integer.MIN_VALUE, Integer.MAX_VALUE, -7, 1000}[random.nextInt(4)]
                    : from + random.nextInt(to - from + 1);
        }

        int permutation() {
            int kind = random.nextInt(24);
            if (kind == 0) {
                return random.nextInt();
            }
            if (kind == 1) {
                return random.nextInt(1000);
            }
            if (kind == 2) {
                return new int[] {0, 1, 2, 10, 102, 122, 123456789, 87654321, 12345678, -1, 87654322, 9, 908}[random.nextInt(13)];
            }
            return Model.told(texts.permutation(random.nextInt(9)));
        }

        /** Feeds a text to both, and says how many of its bytes are to be read. */
        String feed(int[] bytes) {
            int at = 0;
            do {
                int[] five = new int[5];
                for (int byteAt = 0; byteAt < 20; byteAt++) {
                    int sign = at + byteAt < bytes.length ? bytes[at + byteAt] : 32;
                    five[byteAt / 4] = five[byteAt / 4] << 8 | sign;
                }
                at += 20;
                String found = same("feed(" + five[0] + ", " + five[1] + ", " + five[2] + ", " + five[3] + ", " + five[4] + ")",
                        () -> real.feed(five[0], five[1], five[2], five[3], five[4]),
                        () -> model.feed(five));
                if (found != null) {
                    return found;
                }
            } while (at < bytes.length);
            return null;
        }

        int textLength(int[] bytes) {
            int kind = random.nextInt(40);
            if (kind == 0) {
                return small(-2, 230);
            }
            if (kind == 1) {
                return random.nextInt(bytes.length + 1);
            }
            return bytes.length;
        }

        String one() {
            int kind = random.nextInt(100);
            if (kind < 40) {
                return reading(kind);
            }
            if (kind < 50) {
                return changing();
            }
            return kind < 75 ? ofClasses() : ofPermutations();
        }

        String reading(int kind) {
            int[] bytes = kind < 9 ? texts.rows(6) : kind < 13 ? texts.rows(5) : kind < 20 ? texts.inflated() : texts.question();
            String found = feed(bytes);
            if (found != null) {
                return found;
            }
            int n = textLength(bytes);
            int place = place();
            int length = random.nextInt(3) > 0 ? small(0, 6) : small(-1, 9);
            if (kind < 9) {
                found = same("tell(" + place + ", " + n + ")", () -> real.tell(place, n), () -> model.tell(place, n));
            } else if (kind < 13) {
                found = same("under(" + place + ", " + n + ")", () -> real.under(place, n), () -> model.under(place, n));
            } else if (kind < 20) {
                found = same("inflate(" + n + ")", () -> real.inflate(n), () -> model.inflate(n));
            } else {
                found = same("ask(" + place + ", " + length + ", " + n + ") of " + Texts.shown(bytes),
                        () -> real.ask(place, length, n), () -> model.ask(place, length, n));
            }
            return found != null ? found : same("fault()", () -> real.fault(), () -> model.fault);
        }

        String changing() {
            int kind = random.nextInt(10);
            if (kind < 6) {
                int place = place();
                int how = random.nextInt(3) == 0 ? 4 : small(-1, 5);
                int i = place();
                int j = place();
                return same("make(" + place + ", " + how + ", " + i + ", " + j + ")",
                        () -> real.make(place, how, i, j), () -> model.make(place, how, i, j));
            }
            if (kind < 9) {
                return same("undo()", () -> real.undo(), () -> model.undo());
            }
            int[] five = {random.nextInt(), random.nextInt(), random.nextInt(), random.nextInt(), random.nextInt()};
            return same("feed(..)", () -> real.feed(five[0], five[1], five[2], five[3], five[4]), () -> model.feed(five));
        }

        String ofClasses() {
            int place = place();
            int n = random.nextInt(3) > 0 ? small(0, 7) : small(-1, 9);
            int k = small(-1, 9);
            int j = small(-1, 9);
            boolean flag = random.nextBoolean();
            switch (random.nextInt(11)) {
                case 0:
                    return same("basis(" + place + ", " + (k - 1) + ")", () -> real.basis(place, k - 1), () -> model.basis(place, k - 1));
                case 1:
                    return same("many(" + place + ", " + n + ")", () -> real.many(place, n), () -> model.many(place, n));
                case 2:
                    int i = n >= 0 && n <= 8 && place >= 0 && place < 4 && random.nextInt(10) > 0
                            ? random.nextInt(model.many(place, n) + 1) : small(-1, 50);
                    return same("avoider(" + place + ", " + n + ", " + i + ")", () -> real.avoider(place, n, i), () -> model.avoider(place, n, i));
                case 3:
                    int p = random.nextBoolean() ? permutation() : anAvoider(place, n);
                    return same("rank(" + place + ", " + p + ")", () -> real.rank(place, p), () -> model.rank(place, p));
                case 4:
                    int q = random.nextBoolean() ? permutation() : anAvoider(place, n);
                    return same("sites(" + place + ", " + q + ")", () -> real.sites(place, q), () -> model.sites(place, q));
                case 5:
                    return same("labelled(" + place + ", " + n + ", " + k + ")", () -> real.labelled(place, n, k), () -> model.labelled(place, n, k));
                case 6:
                    return same("rule(" + place + ", " + k + ", " + j + ")", () -> real.rule(place, k, j), () -> model.rule(place, k, j));
                case 7:
                    return same("simples(" + place + ", " + n + ")", () -> real.simples(place, n), () -> model.simples(place, n));
                case 8:
                    int which = small(-1, 4);
                    return same("recurrence(" + place + ", " + which + ", " + flag + ")",
                            () -> real.recurrence(place, which, flag), () -> model.recurrence(place, which, flag));
                case 9:
                    return same("degree(" + place + ")", () -> real.degree(place), () -> model.degree(place));
                default:
                    int other = place();
                    return same("parts(" + place + ", " + other + ", " + flag + ")",
                            () -> real.parts(place, other, flag), () -> model.parts(place, other, flag));
            }
        }

        int anAvoider(int place, int n) {
            if (place < 0 || place > 3 || n < 0 || n > 8 || model.many(place, n) == 0) {
                return permutation();
            }
            return model.avoider(place, n, random.nextInt(model.many(place, n)));
        }

        String ofPermutations() {
            int p = permutation();
            int q = random.nextBoolean() ? permutation() : Model.told(texts.permutation(random.nextInt(5)));
            int i = small(-1, 10);
            switch (random.nextInt(4)) {
                case 0:
                    return same("occurrences(" + q + ", " + p + ")", () -> real.occurrences(q, p), () -> model.occurrences(q, p));
                case 1:
                    return same("occurrence(" + q + ", " + p + ", " + i + ")", () -> real.occurrence(q, p, i), () -> model.occurrence(q, p, i));
                case 2:
                    return same("of(" + p + ", " + i + ")", () -> real.of(p, i), () -> model.of(p, i));
                default:
                    return same("part(" + p + ", " + i + ")", () -> real.part(p, i), () -> model.part(p, i));
            }
        }
    }

    /** Texts, most of them right, some with a token or a byte that is wrong. */
    static final class Texts {
        static final String[] VALUES = {"length", "first", "last", "descents", "inversions", "fixed", "cycles", "maxima",
            "peaks", "sites", "simple", "parts"};
        static final String[] ODD = {"many", "total", "most", "least", "or", "and", "not", "{", "}", "(", ")", "<", "=", ">",
            "+", "-", "*", ",", "[", "]", "1000", "999", "0", "0007", "99999999999", "x", "length", "firstlast", "A", ".", "21", "12345678",
            "123456789", "11", "10", "012", "132"};
        final Random random;

        Texts(Random random) {
            this.random = random;
        }

        static String shown(int[] bytes) {
            StringBuilder text = new StringBuilder("'");
            for (int one : bytes) {
                text.append((char) one);
            }
            return text.append("'").toString();
        }

        int[] permutation(int length) {
            List<Integer> numbers = new ArrayList<>();
            for (int number = 1; number <= length; number++) {
                numbers.add(number);
            }
            Collections.shuffle(numbers, random);
            int[] row = new int[length];
            for (int at = 0; at < length; at++) {
                row[at] = numbers.get(at);
            }
            return row;
        }

        String row(int length) {
            StringBuilder text = new StringBuilder();
            for (int number : permutation(length)) {
                text.append(number);
            }
            return text.toString();
        }

        int[] rows(int longest) {
            List<String> tokens = new ArrayList<>();
            int kind = random.nextInt(5) == 0 ? 1 : random.nextInt(12);
            int count = kind == 0 ? 20 + random.nextInt(8) : kind == 1 ? (random.nextBoolean() ? 24 : 12 + random.nextInt(13))
                    : kind < 6 ? random.nextInt(12) : random.nextInt(5);
            int least = kind == 0 ? 1 : kind == 1 ? 4 + random.nextInt(2) : kind < 6 ? 3 : 2;
            int most = kind == 1 ? (random.nextBoolean() ? least : longest) : kind < 4 ? 4 : longest;
            for (int at = 0; at < count; at++) {
                if (at > 0) {
                    tokens.add(",");
                }
                tokens.add(row(random.nextInt(60) == 0 ? 7 : least + random.nextInt(most - least + 1)));
            }
            return written(tokens, 12);
        }

        int[] inflated() {
            List<String> tokens = new ArrayList<>();
            int length = random.nextInt(5) == 0 ? 1 + random.nextInt(8) : 1 + random.nextInt(4);
            tokens.add(row(length));
            tokens.add("[");
            int count = random.nextInt(12) == 0 ? Math.max(1, length + random.nextInt(3) - 1) : length;
            for (int at = 0; at < count; at++) {
                if (at > 0) {
                    tokens.add(",");
                }
                tokens.add(row(1 + random.nextInt(random.nextInt(4) == 0 ? 6 : 2)));
            }
            tokens.add("]");
            return written(tokens, 8);
        }

        int[] question() {
            List<String> tokens = new ArrayList<>();
            int deep = random.nextInt(12) == 0 ? 9 : 3;
            if (random.nextBoolean()) {
                tokens.add("many");
                test(tokens, deep);
            } else {
                tokens.add(new String[] {"total", "most", "least"}[random.nextInt(3)]);
                sum(tokens, deep);
            }
            return written(tokens, 6);
        }

        void test(List<String> tokens, int deep) {
            both(tokens, deep);
            while (random.nextInt(5) == 0) {
                tokens.add("or");
                both(tokens, deep);
            }
        }

        void both(List<String> tokens, int deep) {
            fact(tokens, deep);
            while (random.nextInt(5) == 0) {
                tokens.add("and");
                fact(tokens, deep);
            }
        }

        void fact(List<String> tokens, int deep) {
            int kind = random.nextInt(deep > 3 ? 4 : 6);
            if (deep > 0 && kind < 2) {
                tokens.add("not");
                fact(tokens, deep - 1);
            } else if (deep > 0 && kind == 2) {
                tokens.add("{");
                test(tokens, deep - 1);
                tokens.add("}");
            } else {
                sum(tokens, deep);
                tokens.add(new String[] {"<", "=", ">"}[random.nextInt(3)]);
                sum(tokens, deep);
            }
        }

        void sum(List<String> tokens, int deep) {
            product(tokens, deep);
            while (random.nextInt(4) == 0) {
                tokens.add(random.nextBoolean() ? "+" : "-");
                product(tokens, deep);
            }
        }

        void product(List<String> tokens, int deep) {
            factor(tokens, deep);
            while (random.nextInt(5) == 0) {
                tokens.add("*");
                factor(tokens, deep);
            }
        }

        void factor(List<String> tokens, int deep) {
            int kind = random.nextInt(deep > 3 ? 4 : 8);
            if (deep > 0 && kind == 0) {
                tokens.add("(");
                sum(tokens, deep - 1);
                tokens.add(")");
            } else if (kind < 3) {
                tokens.add(String.valueOf(random.nextInt(random.nextInt(4) == 0 ? 1000 : 10)));
            } else {
                tokens.add(VALUES[random.nextInt(VALUES.length)]);
            }
        }

        /** Writes tokens with blanks, one of so many texts spoilt. */
        int[] written(List<String> given, int spoilt) {
            List<String> tokens = new ArrayList<>(given);
            if (random.nextInt(spoilt) == 0 && !tokens.isEmpty()) {
                int at = random.nextInt(tokens.size());
                int how = random.nextInt(4);
                if (how == 0) {
                    tokens.remove(at);
                } else if (how == 1) {
                    tokens.set(at, ODD[random.nextInt(ODD.length)]);
                } else if (how == 2) {
                    tokens.add(at, ODD[random.nextInt(ODD.length)]);
                } else {
                    tokens.subList(at, tokens.size()).clear();
                }
            }
            StringBuilder text = new StringBuilder();
            boolean tight = random.nextBoolean();
            for (String token : tokens) {
                if (text.length() > 0 && (!tight && random.nextBoolean() || isWordy(text.charAt(text.length() - 1)) && isWordy(token.charAt(0)))
                        && random.nextInt(200) > 0) {
                    text.append(random.nextInt(4) == 0 ? '\n' : ' ');
                }
                text.append(token);
            }
            if (random.nextInt(6) == 0) {
                text.append(' ');
            }
            if (random.nextInt(8) == 0) {
                text.insert(0, " \n");
            }
            if (text.length() > 200) {
                text.setLength(200);
            }
            int[] bytes = new int[text.length()];
            for (int at = 0; at < bytes.length; at++) {
                bytes[at] = text.charAt(at);
            }
            if (bytes.length > 0 && random.nextInt(60) == 0) {
                bytes[random.nextInt(bytes.length)] = random.nextInt(256);
            }
            return bytes;
        }

        static boolean isWordy(char sign) {
            return sign >= 'a' && sign <= 'z' || sign >= '0' && sign <= '9';
        }
    }

    /** The document, followed word by word. */
    static final class Model {
        static final int[][][] ALL = new int[9][][];
        static final Map<List<Integer>, int[][]> KNOWN = new ConcurrentHashMap<>();

        static {
            for (int n = 0; n <= 8; n++) {
                List<int[]> found = new ArrayList<>();
                write(new int[n], 0, found);
                ALL[n] = found.toArray(new int[0][]);
            }
        }

        static void write(int[] row, int at, List<int[]> found) {
            if (at == row.length) {
                found.add(row.clone());
                return;
            }
            for (int number = 1; number <= row.length; number++) {
                boolean free = true;
                for (int before = 0; before < at; before++) {
                    free &= row[before] != number;
                }
                if (free) {
                    row[at] = number;
                    write(row, at + 1, found);
                }
            }
        }

        final List<Integer> tape = new ArrayList<>();
        final List<List<Integer>> bases = new ArrayList<>();
        final ArrayDeque<Object[]> history = new ArrayDeque<>();
        int fault = -1;

        Model() {
            for (int place = 0; place < 4; place++) {
                bases.add(new ArrayList<>());
            }
        }

        static int told(int[] row) {
            int told = 0;
            for (int number : row) {
                told = told * 10 + number;
            }
            return told;
        }

        /** Null if it is no permutation. */
        static int[] row(String figures) {
            if (figures.length() > 8) {
                return null;
            }
            int[] row = new int[figures.length()];
            for (int at = 0; at < row.length; at++) {
                row[at] = figures.charAt(at) - '0';
            }
            for (int number = 1; number <= row.length; number++) {
                if (figures.indexOf('0' + number) < 0) {
                    return null;
                }
            }
            return row;
        }

        static int[] permutation(int told) {
            int[] row = told < 0 ? null : told == 0 ? new int[0] : row(Integer.toString(told));
            if (row == null) {
                throw new IllegalArgumentException();
            }
            return row;
        }

        static List<int[]> subsets(int n, int k) {
            List<int[]> found = new ArrayList<>();
            choose(n, new int[k], 0, 0, found);
            return found;
        }

        static void choose(int n, int[] chosen, int at, int from, List<int[]> found) {
            if (at == chosen.length) {
                found.add(chosen.clone());
                return;
            }
            for (int place = from; place < n; place++) {
                chosen[at] = place;
                choose(n, chosen, at + 1, place + 1, found);
            }
        }

        static final int[][][][] SUBSETS = new int[9][9][][];

        static {
            for (int n = 0; n <= 8; n++) {
                for (int k = 0; k <= 8; k++) {
                    SUBSETS[n][k] = subsets(n, k).toArray(new int[0][]);
                }
            }
        }

        static boolean alike(int[] of, int[] in, int[] places) {
            for (int a = 0; a < of.length; a++) {
                for (int b = 0; b < a; b++) {
                    if ((of[a] < of[b]) != (in[places[a]] < in[places[b]])) {
                        return false;
                    }
                }
            }
            return true;
        }

        static boolean isIn(int[] of, int[] in) {
            for (int[] places : SUBSETS[in.length][of.length]) {
                if (alike(of, in, places)) {
                    return true;
                }
            }
            return false;
        }

        static int[] standard(int[] numbers) {
            int[] sorted = numbers.clone();
            Arrays.sort(sorted);
            int[] row = new int[numbers.length];
            for (int at = 0; at < row.length; at++) {
                row[at] = Arrays.binarySearch(sorted, numbers[at]) + 1;
            }
            return row;
        }

        static int[] avoiders(List<Integer> basis, int n) {
            int[][] known = KNOWN.computeIfAbsent(new ArrayList<>(basis), key -> new int[9][]);
            synchronized (known) {
                if (known[n] == null) {
                    List<int[]> patterns = new ArrayList<>();
                    for (int one : basis) {
                        patterns.add(permutation(one));
                    }
                    known[n] = Arrays.stream(ALL[n]).filter(row -> {
                        for (int[] pattern : patterns) {
                            if (isIn(pattern, row)) {
                                return false;
                            }
                        }
                        return true;
                    }).mapToInt(Model::told).toArray();
                }
                return known[n];
            }
        }

        static boolean isAvoider(List<Integer> basis, int[] row) {
            return Arrays.binarySearch(avoiders(basis, row.length), told(row)) >= 0;
        }

        static List<Integer> basisOf(List<Integer> given) {
            TreeSet<Integer> found = new TreeSet<>();
            for (int one : given) {
                boolean least = true;
                for (int other : given) {
                    least &= other == one || !isIn(permutation(other), permutation(one));
                }
                if (least) {
                    found.add(one);
                }
            }
            return new ArrayList<>(found);
        }

        int feed(int[] five) {
            if (tape.size() + 20 > 200) {
                return -1;
            }
            for (int four : five) {
                tape.add(four >>> 24);
                tape.add(four >>> 16 & 255);
                tape.add(four >>> 8 & 255);
                tape.add(four & 255);
            }
            return tape.size();
        }

        List<Integer> text(int n) {
            List<Integer> text = new ArrayList<>(tape.subList(0, n));
            tape.clear();
            return text;
        }

        void checkText(boolean rest, int n) {
            if (!rest || n < 0 || n > tape.size()) {
                throw new IllegalArgumentException();
            }
        }

        static boolean isPlace(int place) {
            return 0 <= place && place <= 3;
        }

        List<Integer> at(int place) {
            if (!isPlace(place)) {
                throw new NoSuchElementException();
            }
            return bases.get(place);
        }

        static void checkLength(int n, int longest) {
            if (n < 0 || n > longest) {
                throw new NoSuchElementException();
            }
        }

        int give(int place, List<Integer> basis) {
            history.addLast(new Object[] {place, bases.get(place)});
            if (history.size() > 20) {
                history.removeFirst();
            }
            bases.set(place, basis);
            return basis.size();
        }

        int tell(int place, int n) {
            checkText(isPlace(place), n);
            Parse parse = new Parse(text(n), Grammar.ROWS, 6);
            fault = parse.faultPlace;
            return parse.fault != 0 ? -10 - parse.fault : give(place, basisOf(parse.rows));
        }

        int under(int place, int n) {
            checkText(isPlace(place), n);
            Parse parse = new Parse(text(n), Grammar.ROWS, 5);
            fault = parse.faultPlace;
            if (parse.fault != 0) {
                return -10 - parse.fault;
            }
            Set<Integer> members = new HashSet<>();
            members.add(0);
            for (int told : parse.rows) {
                int[] row = permutation(told);
                for (int k = 1; k <= row.length; k++) {
                    for (int[] small : ALL[k]) {
                        if (isIn(small, row)) {
                            members.add(told(small));
                        }
                    }
                }
            }
            List<Integer> outside = new ArrayList<>();
            for (int k = 1; k <= 6; k++) {
                for (int[] row : ALL[k]) {
                    if (!members.contains(told(row)) && deletions(row, members)) {
                        outside.add(told(row));
                    }
                }
            }
            return outside.size() > 24 ? -2 : give(place, outside);
        }

        static boolean deletions(int[] row, Set<Integer> members) {
            for (int[] places : SUBSETS[row.length][row.length - 1]) {
                int[] numbers = new int[places.length];
                for (int at = 0; at < places.length; at++) {
                    numbers[at] = row[places[at]];
                }
                if (!members.contains(told(standard(numbers)))) {
                    return false;
                }
            }
            return true;
        }

        int inflate(int n) {
            checkText(true, n);
            Parse parse = new Parse(text(n), Grammar.INFLATED, 8);
            fault = parse.faultPlace;
            if (parse.fault != 0) {
                return -10 - parse.fault;
            }
            int[] head = permutation(parse.rows.get(0));
            List<Integer> numbers = new ArrayList<>();
            for (int at = 0; at < head.length; at++) {
                for (int number : permutation(parse.rows.get(at + 1))) {
                    numbers.add(head[at] * 100 + number);
                }
            }
            if (numbers.size() > 8) {
                return -2;
            }
            return told(standard(numbers.stream().mapToInt(number -> number).toArray()));
        }

        int make(int place, int how, int i, int j) {
            if (!isPlace(place) || !isPlace(i) || how < 0 || how > 4 || how == 4 && !isPlace(j)) {
                return -1;
            }
            List<Integer> made = new ArrayList<>(bases.get(i));
            if (how == 4) {
                made.addAll(bases.get(j));
                made = basisOf(made);
                return made.size() > 24 ? -2 : give(place, made);
            }
            for (int at = 0; at < made.size(); at++) {
                int[] row = permutation(made.get(at));
                int[] turned = row.clone();
                for (int on = 0; on < row.length; on++) {
                    if (how == 1) {
                        turned[row.length - 1 - on] = row[on];
                    } else if (how == 2) {
                        turned[on] = row.length + 1 - row[on];
                    } else if (how == 3) {
                        turned[row[on] - 1] = on + 1;
                    }
                }
                made.set(at, told(turned));
            }
            Collections.sort(made);
            return give(place, made);
        }

        @SuppressWarnings("unchecked")
        int undo() {
            if (history.isEmpty()) {
                return -1;
            }
            Object[] last = history.removeLast();
            bases.set((Integer) last[0], (List<Integer>) last[1]);
            return history.size();
        }

        int basis(int place, int i) {
            List<Integer> basis = at(place);
            if (i == -1) {
                return basis.size();
            }
            if (i < 0 || i >= basis.size()) {
                throw new NoSuchElementException();
            }
            return basis.get(i);
        }

        int many(int place, int n) {
            List<Integer> basis = at(place);
            checkLength(n, 8);
            return avoiders(basis, n).length;
        }

        int avoider(int place, int n, int i) {
            List<Integer> basis = at(place);
            checkLength(n, 8);
            int[] all = avoiders(basis, n);
            if (i < 0 || i >= all.length) {
                throw new NoSuchElementException();
            }
            return all[i];
        }

        int rank(int place, int permutation) {
            List<Integer> basis = at(place);
            int[] row = permutation(permutation);
            int at = Arrays.binarySearch(avoiders(basis, row.length), permutation);
            return at < 0 ? -1 : at;
        }

        int occurrences(int of, int in) {
            int[] small = permutation(of);
            int[] great = permutation(in);
            int found = 0;
            for (int[] places : SUBSETS[great.length][small.length]) {
                found += alike(small, great, places) ? 1 : 0;
            }
            return found;
        }

        int occurrence(int of, int in, int i) {
            int[] small = permutation(of);
            int[] great = permutation(in);
            for (int[] places : SUBSETS[great.length][small.length]) {
                if (alike(small, great, places)) {
                    return i >= 0 && i < places.length ? places[i] + 1 : -1;
                }
            }
            return -1;
        }

        static int[] child(int[] row, int site) {
            int[] child = new int[row.length + 1];
            for (int at = 0; at < child.length; at++) {
                child[at] = at < site ? row[at] : at == site ? child.length : row[at - 1];
            }
            return child;
        }

        static int sitesOf(List<Integer> basis, int[] row) {
            int bits = 0;
            for (int site = 0; site <= row.length; site++) {
                if (isAvoider(basis, child(row, site))) {
                    bits |= 1 << site;
                }
            }
            return bits;
        }

        int sites(int place, int permutation) {
            List<Integer> basis = at(place);
            int[] row = permutation(permutation);
            return row.length == 8 || !isAvoider(basis, row) ? -1 : sitesOf(basis, row);
        }

        int labelled(int place, int n, int k) {
            List<Integer> basis = at(place);
            checkLength(n, 7);
            int found = 0;
            for (int told : avoiders(basis, n)) {
                found += Integer.bitCount(sitesOf(basis, permutation(told))) == k ? 1 : 0;
            }
            return found;
        }

        int rule(int place, int k, int j) {
            List<Integer> basis = at(place);
            Set<Integer> seen = new HashSet<>();
            for (int n = 0; n <= 6; n++) {
                for (int told : avoiders(basis, n)) {
                    int[] row = permutation(told);
                    int bits = sitesOf(basis, row);
                    if (Integer.bitCount(bits) == k) {
                        int children = 0;
                        for (int site = 0; site <= n; site++) {
                            if ((bits >> site & 1) == 1 && Integer.bitCount(sitesOf(basis, child(row, site))) == j) {
                                children++;
                            }
                        }
                        seen.add(children);
                    }
                }
            }
            return seen.isEmpty() ? -1 : seen.size() > 1 ? -2 : seen.iterator().next();
        }

        static boolean isInterval(int[] row, int from, int to) {
            int[] numbers = Arrays.copyOfRange(row, from, to);
            Arrays.sort(numbers);
            return numbers[numbers.length - 1] - numbers[0] == numbers.length - 1;
        }

        static int intervals(int[] row) {
            int found = 0;
            for (int from = 0; from < row.length; from++) {
                for (int to = from + 2; to <= row.length; to++) {
                    found += isInterval(row, from, to) ? 1 : 0;
                }
            }
            return found;
        }

        static boolean isSimple(int[] row) {
            return row.length >= 4 && intervals(row) == 1;
        }

        static List<int[]> cuts(int[] row, int sign) {
            List<int[]> found = new ArrayList<>();
            int from = 0;
            for (int cut = 1; cut <= row.length; cut++) {
                boolean fine = true;
                for (int a = 0; a < cut; a++) {
                    for (int b = cut; b < row.length; b++) {
                        fine &= (row[b] - row[a]) * sign > 0;
                    }
                }
                if (fine) {
                    found.add(new int[] {from, cut});
                    from = cut;
                }
            }
            return found;
        }

        /** Each as from, to. */
        static List<int[]> partsOf(int[] row) {
            List<int[]> found = new ArrayList<>();
            if (row.length < 2) {
                if (row.length == 1) {
                    found.add(new int[] {0, 1});
                }
                return found;
            }
            found = cuts(row, 1);
            if (found.size() > 1) {
                return found;
            }
            found = cuts(row, -1);
            if (found.size() > 1) {
                return found;
            }
            found = new ArrayList<>();
            for (int from = 0; from < row.length; from++) {
                for (int to = from + 1; to <= row.length; to++) {
                    if (to - from < row.length && isInterval(row, from, to) && !inGreater(row, from, to)) {
                        found.add(new int[] {from, to});
                    }
                }
            }
            return found;
        }

        static boolean inGreater(int[] row, int from, int to) {
            for (int f = 0; f <= from; f++) {
                for (int t = to; t <= row.length; t++) {
                    if (t - f > to - from && t - f < row.length && isInterval(row, f, t)) {
                        return true;
                    }
                }
            }
            return false;
        }

        static int value(String name, List<Integer> basis, int[] row) {
            int n = row.length;
            int found = 0;
            switch (name) {
                case "length":
                    return n;
                case "first":
                    return n == 0 ? 0 : row[0];
                case "last":
                    return n == 0 ? 0 : row[n - 1];
                case "descents":
                    for (int at = 0; at + 1 < n; at++) {
                        found += row[at] > row[at + 1] ? 1 : 0;
                    }
                    return found;
                case "inversions":
                    for (int a = 0; a < n; a++) {
                        for (int b = a + 1; b < n; b++) {
                            found += row[a] > row[b] ? 1 : 0;
                        }
                    }
                    return found;
                case "fixed":
                    for (int at = 0; at < n; at++) {
                        found += row[at] == at + 1 ? 1 : 0;
                    }
                    return found;
                case "cycles":
                    Set<Integer> leaders = new HashSet<>();
                    for (int at = 0; at < n; at++) {
                        int least = at;
                        for (int on = row[at] - 1; on != at; on = row[on] - 1) {
                            least = Math.min(least, on);
                        }
                        leaders.add(least);
                    }
                    return leaders.size();
                case "maxima":
                    for (int at = 0; at < n; at++) {
                        boolean greatest = true;
                        for (int before = 0; before < at; before++) {
                            greatest &= row[before] < row[at];
                        }
                        found += greatest ? 1 : 0;
                    }
                    return found;
                case "peaks":
                    for (int at = 1; at < n - 1; at++) {
                        found += row[at] > row[at - 1] && row[at] > row[at + 1] ? 1 : 0;
                    }
                    return found;
                case "sites":
                    return n == 8 ? 0 : Integer.bitCount(sitesOf(basis, row));
                case "simple":
                    return isSimple(row) ? 1 : 0;
                default:
                    return partsOf(row).size();
            }
        }

        int of(int permutation, int what) {
            int[] row = permutation(permutation);
            int[] turned = row.clone();
            switch (what) {
                case 0:
                    return row.length;
                case 1:
                    return intervals(row);
                case 2:
                    return isSimple(row) ? 1 : 0;
                case 3:
                    return partsOf(row).size();
                case 4:
                    return told(standard(partsOf(row).stream().mapToInt(part -> row[part[0]]).toArray()));
                case 5:
                    for (int at = 0; at < row.length; at++) {
                        turned[row[at] - 1] = at + 1;
                    }
                    return told(turned);
                case 6:
                    for (int at = 0; at < row.length; at++) {
                        turned[row.length - 1 - at] = row[at];
                    }
                    return told(turned);
                case 7:
                    return value("descents", null, row);
                case 8:
                    return value("inversions", null, row);
                case 9:
                    return value("cycles", null, row);
                default:
                    throw new NoSuchElementException();
            }
        }

        int part(int permutation, int i) {
            int[] row = permutation(permutation);
            List<int[]> parts = partsOf(row);
            if (i < 0 || i >= parts.size()) {
                throw new NoSuchElementException();
            }
            return told(standard(Arrays.copyOfRange(row, parts.get(i)[0], parts.get(i)[1])));
        }

        int simples(int place, int n) {
            List<Integer> basis = at(place);
            checkLength(n, 8);
            int found = 0;
            for (int told : avoiders(basis, n)) {
                found += isSimple(permutation(told)) ? 1 : 0;
            }
            return found;
        }

        long recurrence(int place, int i, boolean lower) {
            List<Integer> basis = at(place);
            BigInteger[] c = new BigInteger[9];
            for (int n = 0; n <= 8; n++) {
                c[n] = BigInteger.valueOf(avoiders(basis, n).length);
            }
            for (int k = 1; k <= 3; k++) {
                BigInteger[][] found = fractions(c, k);
                if (found != null) {
                    if (i == -1) {
                        return k;
                    }
                    if (i < 1 || i > k) {
                        throw new NoSuchElementException();
                    }
                    return found[i - 1][lower ? 1 : 0].longValueExact();
                }
            }
            if (i == -1) {
                return -1;
            }
            throw new NoSuchElementException();
        }

        /** By the rule of determinants, from some k of the equations that fix the fractions. */
        static BigInteger[][] fractions(BigInteger[] c, int k) {
            for (int[] chosen : SUBSETS[8 - k][k]) {
                BigInteger[][] square = new BigInteger[k][k];
                for (int at = 0; at < k; at++) {
                    for (int back = 1; back <= k; back++) {
                        square[at][back - 1] = c[chosen[at] + k + 1 - back];
                    }
                }
                BigInteger whole = determinant(square);
                if (whole.signum() == 0) {
                    continue;
                }
                BigInteger[][] found = new BigInteger[k][];
                for (int column = 0; column < k; column++) {
                    BigInteger[][] changed = new BigInteger[k][];
                    for (int at = 0; at < k; at++) {
                        changed[at] = square[at].clone();
                        changed[at][column] = c[chosen[at] + k + 1];
                    }
                    BigInteger upper = determinant(changed);
                    BigInteger divisor = upper.gcd(whole).multiply(BigInteger.valueOf(whole.signum()));
                    found[column] = new BigInteger[] {upper.divide(divisor), whole.divide(divisor), upper};
                }
                for (int n = k + 1; n <= 8; n++) {
                    BigInteger sum = BigInteger.ZERO;
                    for (int back = 1; back <= k; back++) {
                        sum = sum.add(found[back - 1][2].multiply(c[n - back]));
                    }
                    if (!sum.equals(whole.multiply(c[n]))) {
                        return null;
                    }
                }
                return found;
            }
            return null;
        }

        static BigInteger determinant(BigInteger[][] m) {
            if (m.length == 1) {
                return m[0][0];
            }
            BigInteger sum = BigInteger.ZERO;
            for (int column = 0; column < m.length; column++) {
                BigInteger[][] minor = new BigInteger[m.length - 1][m.length - 1];
                for (int at = 1; at < m.length; at++) {
                    for (int on = 0; on < m.length - 1; on++) {
                        minor[at - 1][on] = m[at][on < column ? on : on + 1];
                    }
                }
                BigInteger one = m[0][column].multiply(determinant(minor));
                sum = column % 2 == 0 ? sum.add(one) : sum.subtract(one);
            }
            return sum;
        }

        int degree(int place) {
            List<Integer> basis = at(place);
            List<Integer> row = new ArrayList<>();
            for (int n = 1; n <= 8; n++) {
                row.add(avoiders(basis, n).length);
            }
            for (int d = 0; d <= 5; d++) {
                List<Integer> next = new ArrayList<>();
                for (int at = 1; at < row.size(); at++) {
                    next.add(row.get(at) - row.get(at - 1));
                }
                row = next;
                if (row.stream().allMatch(one -> one == 0)) {
                    return d;
                }
            }
            return -1;
        }

        int parts(int i, int j, boolean members) {
            List<Integer> one = at(i);
            List<Integer> two = at(j);
            for (int n = 0; n <= 8; n++) {
                int[] a = avoiders(one, n);
                int[] b = avoiders(two, n);
                if (members ? !Arrays.equals(a, b) : a.length != b.length) {
                    return n;
                }
            }
            return -1;
        }

        int ask(int place, int length, int n) {
            checkText(isPlace(place) && length >= 0 && length <= 8, n);
            Parse parse = new Parse(text(n), Grammar.QUESTION, 0);
            fault = parse.faultPlace;
            if (parse.fault != 0) {
                return -1000000000 - parse.fault;
            }
            List<Integer> basis = bases.get(place);
            String head = parse.tokens.get(0);
            List<String> rest = parse.tokens.subList(1, parse.tokens.size());
            int total = 0;
            Integer best = null;
            for (int told : avoiders(basis, length)) {
                int value = Meaning.of(rest, basis, permutation(told));
                total += value;
                if (best == null || (head.equals("most") ? value > best : value < best)) {
                    best = value;
                }
            }
            return head.equals("many") || head.equals("total") ? total : best == null ? 0 : best;
        }
    }

    /** What a text means: the tokens are cut at the act that binds least. */
    static final class Meaning {
        static int of(List<String> tokens, List<Integer> basis, int[] row) {
            int at = lastOf(tokens, "or");
            if (at >= 0) {
                return of(tokens.subList(0, at), basis, row) == 1 | of(tokens.subList(at + 1, tokens.size()), basis, row) == 1 ? 1 : 0;
            }
            at = lastOf(tokens, "and");
            if (at >= 0) {
                return of(tokens.subList(0, at), basis, row) == 1 & of(tokens.subList(at + 1, tokens.size()), basis, row) == 1 ? 1 : 0;
            }
            if (tokens.get(0).equals("not")) {
                return 1 - of(tokens.subList(1, tokens.size()), basis, row);
            }
            at = lastOf(tokens, "<", "=", ">");
            if (at >= 0) {
                int order = Integer.compare(of(tokens.subList(0, at), basis, row), of(tokens.subList(at + 1, tokens.size()), basis, row));
                return order == "<=>".indexOf(tokens.get(at)) - 1 ? 1 : 0;
            }
            at = lastOf(tokens, "+", "-");
            if (at >= 0) {
                int left = of(tokens.subList(0, at), basis, row);
                int right = of(tokens.subList(at + 1, tokens.size()), basis, row);
                return tokens.get(at).equals("+") ? left + right : left - right;
            }
            at = lastOf(tokens, "*");
            if (at >= 0) {
                return of(tokens.subList(0, at), basis, row) * of(tokens.subList(at + 1, tokens.size()), basis, row);
            }
            String one = tokens.get(0);
            if (one.equals("(") || one.equals("{")) {
                return of(tokens.subList(1, tokens.size() - 1), basis, row);
            }
            return Character.isDigit(one.charAt(0)) ? Integer.parseInt(one) : Model.value(one, basis, row);
        }

        static int lastOf(List<String> tokens, String... sought) {
            int open = 0;
            for (int at = tokens.size() - 1; at >= 0; at--) {
                String token = tokens.get(at);
                open += token.equals(")") || token.equals("}") ? 1 : token.equals("(") || token.equals("{") ? -1 : 0;
                if (open == 0 && Arrays.asList(sought).contains(token)) {
                    return at;
                }
            }
            return -1;
        }
    }

    /** Grammars as productions; big names are kinds of phrases (NN any number), others tokens. */
    static final class Grammar {
        static final Grammar ROWS = new Grammar("ROWS", "ROWS:|ROWS:MORE|MORE:NN|MORE:NN , MORE");
        static final Grammar INFLATED = new Grammar("INFLATED", "INFLATED:NN [ MORE ]|MORE:NN|MORE:NN , MORE");
        static final Grammar QUESTION = new Grammar("QUESTION", "QUESTION:many TEST|QUESTION:total SUM|QUESTION:most SUM"
                + "|QUESTION:least SUM|TEST:BOTH|TEST:BOTH or TEST|BOTH:FACT|BOTH:FACT and BOTH|FACT:not FACT|FACT:{ TEST }"
                + "|FACT:SUM < SUM|FACT:SUM = SUM|FACT:SUM > SUM|SUM:PRODUCT|SUM:PRODUCT + SUM|SUM:PRODUCT - SUM"
                + "|PRODUCT:PART|PRODUCT:PART * PRODUCT|PART:NN|PART:( SUM )|PART:VALUE|VALUE:length|VALUE:first|VALUE:last"
                + "|VALUE:descents|VALUE:inversions|VALUE:fixed|VALUE:cycles|VALUE:maxima|VALUE:peaks|VALUE:sites"
                + "|VALUE:simple|VALUE:parts");
        final String start;
        final Map<String, List<String[]>> ways = new HashMap<>();

        Grammar(String start, String told) {
            this.start = start;
            for (String one : told.split("\\|")) {
                int colon = one.indexOf(':');
                String body = one.substring(colon + 1);
                ways.computeIfAbsent(one.substring(0, colon), key -> new ArrayList<>())
                        .add(body.isEmpty() ? new String[0] : body.split(" "));
            }
        }
    }

    /** An item of Earley's way to read: how far along a production, and from which token on. */
    record Item(String name, List<String> body, int dot, int from) {
        boolean over() {
            return dot == body.size();
        }
    }

    /** Goes through a text token by token; a token can stand where some text goes on behind it. */
    static final class Parse {
        final List<String> tokens = new ArrayList<>();
        final List<Integer> rows = new ArrayList<>();
        int fault;
        int faultPlace = -1;

        Parse(List<Integer> bytes, Grammar grammar, int longest) {
            List<Integer> places = new ArrayList<>();
            split(bytes, places);
            List<Set<Item>> sets = new ArrayList<>();
            Set<Item> first = new LinkedHashSet<>();
            for (String[] way : grammar.ways.get(grammar.start)) {
                first.add(new Item(grammar.start, Arrays.asList(way), 0, 0));
            }
            sets.add(first);
            close(grammar, sets);
            ArrayDeque<String> open = new ArrayDeque<>();
            for (int at = 0; at < tokens.size(); at++) {
                String token = tokens.get(at);
                boolean number = Character.isDigit(token.charAt(0));
                Set<Item> next = new LinkedHashSet<>();
                for (Item item : sets.get(at)) {
                    if (!item.over() && item.body().get(item.dot()).equals(number ? "NN" : token)) {
                        next.add(new Item(item.name(), item.body(), item.dot() + 1, item.from()));
                    }
                }
                boolean short1 = grammar == Grammar.INFLATED && token.equals("]")
                        && rows.size() - 1 < Integer.toString(rows.isEmpty() ? 0 : rows.get(0)).length();
                if (next.isEmpty() || short1) {
                    fault = 1;
                } else if (number && !isFine(token, grammar, longest)) {
                    fault = 2;
                } else if (isTooMany(token, grammar, open)) {
                    fault = 3;
                }
                if (fault != 0) {
                    faultPlace = places.get(at);
                    return;
                }
                sets.add(next);
                close(grammar, sets);
            }
            boolean ends = false;
            for (Item item : sets.get(tokens.size())) {
                ends |= item.over() && item.name().equals(grammar.start) && item.from() == 0;
            }
            if (!ends) {
                fault = 1;
                faultPlace = bytes.size();
            }
        }

        boolean isFine(String token, Grammar grammar, int longest) {
            if (grammar == Grammar.QUESTION) {
                return new BigInteger(token).compareTo(BigInteger.valueOf(999)) <= 0;
            }
            int[] row = token.length() > longest ? null : Model.row(token);
            if (row != null) {
                rows.add(Model.told(row));
            }
            return row != null;
        }

        boolean isTooMany(String token, Grammar grammar, ArrayDeque<String> open) {
            if (grammar == Grammar.ROWS) {
                return rows.size() > 24;
            }
            if (grammar == Grammar.INFLATED) {
                return rows.size() - 1 > Integer.toString(rows.get(0)).length();
            }
            switch (token) {
                case "not":
                case "{":
                case "(":
                    open.push(token);
                    break;
                case ")":
                    open.pop();
                    break;
                case "or":
                case "and":
                case "}":
                    while (!open.isEmpty() && open.peek().equals("not")) {
                        open.pop();
                    }
                    if (token.equals("}")) {
                        open.pop();
                    }
                    break;
                default:
            }
            return open.size() > 6;
        }

        void split(List<Integer> bytes, List<Integer> places) {
            int at = 0;
            while (at < bytes.size()) {
                int kind = kind(bytes.get(at));
                int from = at;
                at++;
                if (kind == 0) {
                    continue;
                }
                while (kind < 3 && at < bytes.size() && kind(bytes.get(at)) == kind) {
                    at++;
                }
                StringBuilder token = new StringBuilder();
                for (int one : bytes.subList(from, at)) {
                    token.append((char) one);
                }
                tokens.add(token.toString());
                places.add(from);
            }
        }

        static int kind(int sign) {
            return sign == 32 || sign == 10 ? 0 : sign >= 'a' && sign <= 'z' ? 1 : sign >= '0' && sign <= '9' ? 2 : 3;
        }

        static void close(Grammar grammar, List<Set<Item>> sets) {
            int here = sets.size() - 1;
            List<Item> work = new ArrayList<>(sets.get(here));
            Set<Item> seen = sets.get(here);
            for (int at = 0; at < work.size(); at++) {
                Item item = work.get(at);
                List<Item> more = new ArrayList<>();
                if (item.over()) {
                    for (Item waiting : new ArrayList<>(sets.get(item.from()))) {
                        if (!waiting.over() && waiting.body().get(waiting.dot()).equals(item.name())) {
                            more.add(new Item(waiting.name(), waiting.body(), waiting.dot() + 1, waiting.from()));
                        }
                    }
                } else if (grammar.ways.containsKey(item.body().get(item.dot()))) {
                    for (String[] way : grammar.ways.get(item.body().get(item.dot()))) {
                        more.add(new Item(item.body().get(item.dot()), Arrays.asList(way), 0, here));
                    }
                }
                for (Item one : more) {
                    if (seen.add(one)) {
                        work.add(one);
                    }
                }
            }
        }
    }
}
