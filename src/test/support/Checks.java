import java.util.NoSuchElementException;

/** What the tests of told answers share: answers set against those that are due, and texts brought by feed. */
abstract class Checks {
    static final String ILLEGAL = "IllegalArgumentException";
    static final String NO_SUCH = "NoSuchElementException";
    /** What is tested now: it is told ahead of each wrong answer. */
    static String tested = "";
    static int wrong;

    interface Call {
        long on();
    }

    static void due(String call, long got, long want) {
        if (got != want) {
            fail(call + " answered " + got + ", due is " + want);
        }
    }

    static void thrown(String call, Call on, String want) {
        String got;
        try {
            got = "the answer " + on.on();
        } catch (IllegalArgumentException e) {
            got = ILLEGAL;
        } catch (NoSuchElementException e) {
            got = NO_SUCH;
        }
        if (!got.equals(want)) {
            fail(call + " gave " + got + ", due is " + want);
        }
    }

    static void fail(String what) {
        wrong++;
        System.out.println(tested + ": " + what);
    }

    static void end() {
        System.out.println(wrong == 0 ? "all answers are as due" : wrong + " answers are not as due");
        if (wrong != 0) {
            System.exit(1);
        }
    }

    /** Feeds a text and says how long it is. */
    static int text(UnpatternedRows x, String text) {
        for (int from = 0; from < text.length(); from += 20) {
            int[] five = new int[5];
            for (int at = 0; at < 20; at++) {
                int sign = from + at < text.length() ? text.charAt(from + at) : ' ';
                five[at / 4] = five[at / 4] << 8 | sign;
            }
            x.feed(five[0], five[1], five[2], five[3], five[4]);
        }
        return text.length();
    }

    static int tell(UnpatternedRows x, int place, String rows) {
        return x.tell(place, text(x, rows));
    }

    static int under(UnpatternedRows x, int place, String rows) {
        return x.under(place, text(x, rows));
    }

    static int inflate(UnpatternedRows x, String inflated) {
        return x.inflate(text(x, inflated));
    }

    static int ask(UnpatternedRows x, int place, int length, String question) {
        return x.ask(place, length, text(x, question));
    }

    static String times(String what, int count) {
        return what.repeat(count);
    }

    static UnpatternedRows with(String... bases) {
        UnpatternedRows x = new UnpatternedRows();
        for (int place = 0; place < bases.length; place++) {
            tell(x, place, bases[place]);
        }
        return x;
    }
}
