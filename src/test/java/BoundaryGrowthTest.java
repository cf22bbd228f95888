/** The sentences that name boundary cases of how classes grow: sites, the tree, simple ones, recurrences, degrees; promises 15 to 17, 20 to 23. */
public final class BoundaryGrowthTest extends Sentences {
    private static final int[] FAR = {Integer.MIN_VALUE, -1, 9, Integer.MAX_VALUE};

    public static void main(String[] args) {
        sites();
        labelled();
        rule();
        simples();
        recurrence();
        recurrenceRefused();
        degree();
        parts();
        partsRefused();
        end();
    }

    private static void sites() {
        sentence(15, "SITES of an AVOIDER of LENGTH n (0 to 7): the places 0 to n (0 ahead of all, i behind the i-th)", () -> {
            UnpatternedRows x = with("", "1", "12", "21");
            due("sites(0, 0)", x.sites(0, 0), 1);
            due("sites(0, 1)", x.sites(0, 1), 3);
            due("sites(0, 1234567)", x.sites(0, 1234567), 255);
            due("sites(1, 0): none", x.sites(1, 0), 0);
            due("sites(2, 1): ahead of all", x.sites(2, 1), 1);
            due("sites(2, 7654321)", x.sites(2, 7654321), 1);
            due("sites(3, 1): behind all", x.sites(3, 1), 2);
            due("sites(3, 1234567)", x.sites(3, 1234567), 128);
        });
        sentence(15, "SITES of an AVOIDER, as bits; NONE: it is none, its LENGTH is 8.", () -> {
            UnpatternedRows x = with("", "1", "132", "12,321");
            due("sites(0, 12345678)", x.sites(0, 12345678), NONE);
            due("sites(1, 1)", x.sites(1, 1), NONE);
            due("sites(1, 12345678)", x.sites(1, 12345678), NONE);
            due("sites(2, 132)", x.sites(2, 132), NONE);
            due("sites(2, 1324567)", x.sites(2, 1324567), NONE);
            due("sites(2, 12)", x.sites(2, 12), 5);
            due("sites(3, 21): an AVOIDER without SITES", x.sites(3, 21), 0);
        });
        sentence(15, "NoSuchElementException: no such PLACE.", () -> {
            UnpatternedRows x = new UnpatternedRows();
            for (int place : NO_PLACES) {
                thrown("sites(" + place + ", 1)", () -> x.sites(place, 1), NO_SUCH);
                thrown("sites(" + place + ", 13)", () -> x.sites(place, 13), NO_SUCH);
                thrown("sites(" + place + ", 12345678)", () -> x.sites(place, 12345678), NO_SUCH);
            }
        });
        sentence(15, "throws NoSuchElementException, IllegalArgumentException", () -> {
            UnpatternedRows x = new UnpatternedRows();
            for (int wrong : NO_PERMUTATIONS) {
                thrown("sites(0, " + wrong + ")", () -> x.sites(0, wrong), ILLEGAL);
            }
        });
    }

    private static void labelled() {
        sentence(16, "How many AVOIDERS of LENGTH n (0 to 7) have k SITES.", () -> {
            UnpatternedRows x = with("", "1", "12,321");
            due("labelled(0, 0, 1)", x.labelled(0, 0, 1), 1);
            due("labelled(0, 7, 8)", x.labelled(0, 7, 8), 5040);
            due("labelled(0, 7, 7)", x.labelled(0, 7, 7), 0);
            due("labelled(1, 0, 0)", x.labelled(1, 0, 0), 1);
            due("labelled(1, 1, 0): no AVOIDERS", x.labelled(1, 1, 0), 0);
            due("labelled(2, 2, 0)", x.labelled(2, 2, 0), 1);
            due("labelled(2, 3, 0): no AVOIDERS", x.labelled(2, 3, 0), 0);
            for (int k : FAR) {
                due("labelled(0, 3, " + k + ")", x.labelled(0, 3, k), 0);
            }
        });
        sentence(16, "NoSuchElementException: no such PLACE, n.", () -> {
            UnpatternedRows x = new UnpatternedRows();
            for (int n : new int[] {Integer.MIN_VALUE, -1, 8, 9, Integer.MAX_VALUE}) {
                thrown("labelled(0, " + n + ", 1)", () -> x.labelled(0, n, 1), NO_SUCH);
            }
            for (int place : NO_PLACES) {
                thrown("labelled(" + place + ", 0, 1)", () -> x.labelled(place, 0, 1), NO_SUCH);
            }
        });
    }

    private static void rule() {
        sentence(17, "of all AVOIDERS of LENGTH 0 to 6 that have just k SITES it is seen how many of their CHILDREN have just j SITES", () -> {
            UnpatternedRows x = new UnpatternedRows();
            for (int k = 1; k <= 7; k++) {
                for (int j = 0; j <= 8; j++) {
                    due("rule(0, " + k + ", " + j + ")", x.rule(0, k, j), j == k + 1 ? k : 0);
                }
            }
            due("rule(0, 8, 0): those of LENGTH 7 aren't seen", x.rule(0, 8, 0), NONE);
            tell(x, 0, "652341,1234,315426,132");
            due("labelled(0, 7, 0)", x.labelled(0, 7, 0), 1);
            due("rule(0, 0, 0): nor this one", x.rule(0, 0, 0), NONE);
            tell(x, 0, "1234,54132");
            for (int n = 0; n <= 6; n++) {
                due("labelled(0, " + n + ", 0)", x.labelled(0, n, 0), n == 6 ? 9 : 0);
            }
            due("rule(0, 0, 0): those of LENGTH 6 are", x.rule(0, 0, 0), 0);
        });
        sentence(17, "A RULE for k, j: for all of these AVOIDERS as many.", () -> {
            UnpatternedRows x = with("123", "12,321");
            for (int j = 0; j <= 8; j++) {
                due("rule(0, 3, " + j + ")", x.rule(0, 3, j), j >= 2 && j <= 4 ? 1 : 0);
            }
            due("rule(1, 0, 0): one without SITES has no CHILDREN", x.rule(1, 0, 0), 0);
            due("rule(1, 1, 1): of LENGTH 0 it has one, of LENGTH 1 none", x.rule(1, 1, 1), -2);
            due("rule(1, 1, 0): the other way round", x.rule(1, 1, 0), -2);
            due("rule(1, 1, 2): all have none", x.rule(1, 1, 2), 0);
        });
        sentence(17, "NONE: there are no AVOIDERS with k SITES; -2: not for all as many.", () -> {
            UnpatternedRows x = with("1", "12", "1234");
            due("rule(0, 0, 0)", x.rule(0, 0, 0), 0);
            due("rule(0, 1, 0)", x.rule(0, 1, 0), NONE);
            due("rule(1, 0, 0)", x.rule(1, 0, 0), NONE);
            due("rule(1, 1, 1)", x.rule(1, 1, 1), 1);
            due("rule(1, 2, 1)", x.rule(1, 2, 1), NONE);
            due("rule(2, 4, 3)", x.rule(2, 4, 3), -2);
            for (int far : FAR) {
                due("rule(3, " + far + ", 1)", x.rule(3, far, 1), NONE);
                due("rule(3, 1, " + far + ")", x.rule(3, 1, far), 0);
            }
        });
        sentence(17, "NoSuchElementException: no such PLACE.", () -> {
            UnpatternedRows x = new UnpatternedRows();
            for (int place : NO_PLACES) {
                thrown("rule(" + place + ", 1, 1)", () -> x.rule(place, 1, 1), NO_SUCH);
                thrown("rule(" + place + ", -1, -1)", () -> x.rule(place, -1, -1), NO_SUCH);
            }
        });
    }

    private static void simples() {
        sentence(20, "SIMPLE is a PERMUTATION of LENGTH 4 or more", () -> {
            UnpatternedRows x = with("", "1", "2413,3142", "2413");
            int[] all = {0, 0, 0, 0, 2, 6, 46, 338, 2926};
            for (int n = 0; n <= 8; n++) {
                due("simples(0, " + n + ")", x.simples(0, n), all[n]);
                due("simples(1, " + n + ")", x.simples(1, n), 0);
                due("simples(2, " + n + ")", x.simples(2, n), 0);
            }
            due("simples(3, 4)", x.simples(3, 4), 1);
        });
        sentence(20, "NoSuchElementException: no such PLACE, n not 0 to 8.", () -> {
            UnpatternedRows x = new UnpatternedRows();
            for (int n : FAR) {
                thrown("simples(0, " + n + ")", () -> x.simples(0, n), NO_SUCH);
            }
            for (int place : NO_PLACES) {
                thrown("simples(" + place + ", 4)", () -> x.simples(place, 4), NO_SUCH);
            }
        });
    }

    /** The fractions of a class's recurrence, upper and lower numbers. */
    private static void fractions(String rows, long... due) {
        UnpatternedRows x = with(rows);
        int k = due.length / 2;
        for (boolean lower : new boolean[] {false, true}) {
            due("k of " + rows, x.recurrence(0, NONE, lower), k == 0 ? NONE : k);
            for (int i : new int[] {Integer.MIN_VALUE, -2, 0, k + 1, 4, Integer.MAX_VALUE}) {
                thrown("recurrence(0, " + i + ", " + lower + ") of " + rows, () -> x.recurrence(0, i, lower), NO_SUCH);
            }
            for (int i = 1; i <= k; i++) {
                due((lower ? "lower " : "upper ") + i + " of " + rows, x.recurrence(0, i, lower), due[2 * i - (lower ? 1 : 2)]);
            }
        }
    }

    private static void recurrence() {
        sentence(21, "the least k (1 to 3) for which there are fractions a1 .. ak", () -> {
            fractions("132,231", 2, 1);
            fractions("12", 1, 1);
            fractions("123,132,213", 1, 1, 1, 1);
            fractions("132,321", 3, 1, -3, 1, 1, 1);
            fractions("132,4321");
            fractions("123");
            fractions("");
        });
        sentence(21, "RECURRENCE: k (i NONE; NONE: none)", () -> {
            UnpatternedRows x = with("12", "123,132,213", "132,321", "1234");
            int[] due = {1, 2, 3, NONE};
            for (int place = 0; place < 4; place++) {
                due("recurrence(" + place + ", NONE, false)", x.recurrence(place, NONE, false), due[place]);
                due("recurrence(" + place + ", NONE, true)", x.recurrence(place, NONE, true), due[place]);
            }
        });
        sentence(21, "(c(0) isn't looked at)", () -> {
            fractions("12,21", 0, 1);
            fractions("123,132,231", 2, 1, -1, 1);
        });
        sentence(21, "(if more than one such row: none is told, k isn't that)", () -> fractions("1"));
        sentence(21, "for each n from k + 1 to 8", () -> {
            fractions("12,321", 0, 1, 0, 1);
            fractions("12,4321", 0, 1, 0, 1, 0, 1);
            fractions("12,54321");
            fractions("12,654321");
            // By two counts up to LENGTH 7, but not at 8: no k has a row.
            fractions("1342,3142,1324,614253,2143,423561");
            fractions("2134,25314,412365,1243,246135");
            fractions("3241,352461,431625,2314,14253,35214");
        });
        sentence(21, "of ai (i 1 to k) the upper number (lower false), the lower one (above 0, in lowest terms)", () -> {
            fractions("24153,24351,13452,34125", 17, 2, -17, 1, 7, 1);
            fractions("1234,4132,1423,2143,54213,536421", 11, 2, -12, 1, 11, 1);
            fractions("3412,3421,4123,4132,1423,4231,4312,2341,2413,3241,32154,123465", 7, 2, -5, 2, -2, 1);
            fractions("4213,4231,4312,4321,2341,3214,15234,34125,561234,413652", 9, 2, -17, 2, 8, 1);
            fractions("321,3412", 3, 1, -1, 1);
        });
    }

    private static void recurrenceRefused() {
        sentence(21, "NoSuchElementException: no such PLACE, i.", () -> {
            UnpatternedRows x = with("12");
            for (int place : NO_PLACES) {
                thrown("recurrence(" + place + ", NONE, false)", () -> x.recurrence(place, NONE, false), NO_SUCH);
                thrown("recurrence(" + place + ", 1, true)", () -> x.recurrence(place, 1, true), NO_SUCH);
            }
            due("recurrence(0, 1, true)", x.recurrence(0, 1, true), 1);
            thrown("recurrence(0, 2, true)", () -> x.recurrence(0, 2, true), NO_SUCH);
            thrown("recurrence(0, 0, true)", () -> x.recurrence(0, 0, true), NO_SUCH);
            thrown("recurrence(1, 1, true): there is none", () -> x.recurrence(1, 1, true), NO_SUCH);
            due("recurrence(1, NONE, true): there is none", x.recurrence(1, NONE, true), NONE);
        });
    }

    private static void degreeOf(String rows, int due) {
        due("degree of " + rows, with(rows).degree(0), due);
    }

    private static void degree() {
        sentence(22, "DEGREE: the least d (0 to 5) so that all differences of c(1) .. c(8), made d + 1 times, are 0.", () -> {
            degreeOf("1", 0);
            degreeOf("12", 0);
            degreeOf("123,132,231", 1);
            degreeOf("132,321", 2);
            degreeOf("213,1423,3421", 3);
            degreeOf("321,2134", 4);
            degreeOf("321,1324", 5);
        });
        sentence(22, "DEGREE; NONE: none.", () -> {
            degreeOf("213,54321", NONE);
            degreeOf("", NONE);
            degreeOf("12,21", NONE);
            degreeOf("12,654321", NONE);
            degreeOf("123456", NONE);
        });
        sentence(22, "NoSuchElementException: no such PLACE.", () -> {
            UnpatternedRows x = new UnpatternedRows();
            for (int place : NO_PLACES) {
                thrown("degree(" + place + ")", () -> x.degree(place), NO_SUCH);
            }
        });
    }

    private static void parting(String one, String other, int counts, int members) {
        UnpatternedRows x = with(one, other);
        String both = " of " + one + " and " + other;
        due("parts(0, 1, false)" + both, x.parts(0, 1, false), counts);
        due("parts(1, 0, false)" + both, x.parts(1, 0, false), counts);
        due("parts(0, 1, true)" + both, x.parts(0, 1, true), members);
        due("parts(1, 0, true)" + both, x.parts(1, 0, true), members);
    }

    private static void parts() {
        sentence(23, "The least LENGTH (0 to 8) of which two CLASSES have not as many AVOIDERS (members false), not the same ones (true)", () -> {
            parting("", "1", 1, 1);
            parting("12", "", 2, 2);
            parting("12", "1", 1, 1);
            parting("1342", "1324", 6, 4);
            parting("2143", "1324", 7, 4);
            parting("25431", "54213", 8, 5);
            parting("123456", "", 6, 6);
            parting("12,654321", "12", 6, 6);
        });
        sentence(23, "NONE: none.", () -> {
            parting("", "", NONE, NONE);
            parting("1", "1", NONE, NONE);
            parting("132,1324", "132", NONE, NONE);
            parting("123", "132", NONE, 3);
            parting("123456", "654321", NONE, 6);
            UnpatternedRows x = with("132");
            due("parts(0, 0, false)", x.parts(0, 0, false), NONE);
            due("parts(0, 0, true)", x.parts(0, 0, true), NONE);
        });
    }

    private static void partsRefused() {
        sentence(23, "NoSuchElementException: no such PLACES.", () -> {
            UnpatternedRows x = new UnpatternedRows();
            for (int place : NO_PLACES) {
                thrown("parts(" + place + ", 0, false)", () -> x.parts(place, 0, false), NO_SUCH);
                thrown("parts(0, " + place + ", false)", () -> x.parts(0, place, false), NO_SUCH);
                thrown("parts(" + place + ", 0, true)", () -> x.parts(place, 0, true), NO_SUCH);
                thrown("parts(0, " + place + ", true)", () -> x.parts(0, place, true), NO_SUCH);
                thrown("parts(" + place + ", " + place + ", true)", () -> x.parts(place, place, true), NO_SUCH);
            }
        });
    }
}
