/** The sentences that name boundary cases of classes: new ones, made and undone ones, their bases and avoiders; promises 1, 7 to 12. */
public final class BoundaryClassesTest extends Sentences {
    private static final int[] FACTORIALS = {1, 1, 2, 6, 24, 120, 720, 5040, 40320};
    private static final UnpatternedRows ALL = new UnpatternedRows();

    public static void main(String[] args) {
        newObject();
        make();
        makeBoth();
        makeRefused();
        undo();
        undoAtMost();
        basis();
        many();
        avoider();
        rank();
        rankRefused();
        end();
    }

    /** Some permutations of LENGTH 5, in ORDER, as a text. */
    private static String ofLength5(int from, int count) {
        StringBuilder rows = new StringBuilder();
        for (int at = from; at < from + count; at++) {
            rows.append(at == from ? "" : ",").append(ALL.avoider(0, 5, at));
        }
        return rows.toString();
    }

    private static void bases(UnpatternedRows x, int place, int... due) {
        due("basis(" + place + ", NONE)", x.basis(place, NONE), due.length);
        for (int i = 0; i < due.length && i < x.basis(place, NONE); i++) {
            due("basis(" + place + ", " + i + ")", x.basis(place, i), due[i]);
        }
    }

    private static void newObject() {
        sentence(1, "All BASES are empty.", () -> {
            UnpatternedRows x = new UnpatternedRows();
            for (int place = 0; place < 4; place++) {
                int at = place;
                bases(x, place);
                thrown("basis(" + place + ", 0)", () -> x.basis(at, 0), NO_SUCH);
            }
            due("undo()", x.undo(), NONE);
            due("fault()", x.fault(), NONE);
            thrown("tell(0, 1): the tape is empty", () -> x.tell(0, 1), ILLEGAL);
        });
        sentence(1, "At first, all are empty (all PERMUTATIONS are AVOIDERS).", () -> {
            UnpatternedRows x = new UnpatternedRows();
            for (int place = 0; place < 4; place++) {
                for (int n = 0; n <= 8; n++) {
                    due("many(" + place + ", " + n + ")", x.many(place, n), FACTORIALS[n]);
                }
                due("rank(" + place + ", 87654321)", x.rank(place, 87654321), 40319);
            }
        });
        sentence(1, "There are PLACES 0 to 3, each with a CLASS", () -> {
            UnpatternedRows x = with("1", "12", "123", "1234");
            int[] six = {0, 1, 132, 513};
            for (int place = 0; place < 4; place++) {
                due("many(" + place + ", 6)", x.many(place, 6), six[place]);
            }
            for (int place : NO_PLACES) {
                thrown("many(" + place + ", 6)", () -> x.many(place, 6), NO_SUCH);
            }
        });
        sentence(1, "`NONE = -1`: There is none.", () -> due("NONE", UnpatternedRows.NONE, -1));
        sentence(1, "An object is used for at most 512 calls after it has been made", () -> {
            UnpatternedRows x = new UnpatternedRows();
            for (int call = 1; call < 512; call += 3) {
                x.feed(0x31323320, 0, 0, 0, 0);
                due("tell, time " + call, x.tell(call % 4, 3), 1);
                due("undo(), time " + call, x.undo(), 0);
            }
            due("call 512: undo()", x.undo(), NONE);
        });
    }

    private static void make() {
        sentence(7, "A PLACE has then, of the CLASS of PLACE i: how 0 that", () -> {
            UnpatternedRows x = with("132,4321", "12");
            due("make(3, 0, 0, 0)", x.make(3, 0, 0, 0), 2);
            bases(x, 3, 132, 4321);
            due("make(1, 0, 1, 0) of itself", x.make(1, 0, 1, 0), 1);
            bases(x, 1, 12);
            due("make(0, 0, 2, 0) of an empty one", x.make(0, 0, 2, 0), 0);
            bases(x, 0);
            due("many(0, 8)", x.many(0, 8), 40320);
        });
        sentence(7, "1 that of its PERMUTATIONS read from behind", () -> {
            UnpatternedRows x = with("1342,4312", "1", "", "123456");
            due("make(0, 1, 0, 0) of itself", x.make(0, 1, 0, 0), 2);
            bases(x, 0, 2134, 2431);
            due("make(1, 1, 1, 0)", x.make(1, 1, 1, 0), 1);
            bases(x, 1, 1);
            due("make(2, 1, 2, 0)", x.make(2, 1, 2, 0), 0);
            due("make(2, 1, 3, 0)", x.make(2, 1, 3, 0), 1);
            bases(x, 2, 654321);
        });
        sentence(7, "2 of them with n and 1 less each number", () -> {
            UnpatternedRows x = with("1342,4312", "1", "123456");
            due("make(0, 2, 0, 0)", x.make(0, 2, 0, 0), 2);
            bases(x, 0, 1243, 4213);
            due("make(1, 2, 1, 0)", x.make(1, 2, 1, 0), 1);
            bases(x, 1, 1);
            due("make(3, 2, 2, 0)", x.make(3, 2, 2, 0), 1);
            bases(x, 3, 654321);
        });
        sentence(7, "3 of their INVERSES (place and number changed)", () -> {
            UnpatternedRows x = with("1342,4312", "1", "235614");
            due("make(0, 3, 0, 0)", x.make(0, 3, 0, 0), 2);
            bases(x, 0, 1423, 3421);
            due("make(1, 3, 1, 0)", x.make(1, 3, 1, 0), 1);
            bases(x, 1, 1);
            due("make(3, 3, 2, 0)", x.make(3, 3, 2, 0), 1);
            bases(x, 3, 512634);
        });
    }

    private static void makeBoth() {
        sentence(7, "4 of those that are in the CLASS of PLACE j, too: how many its BASIS has", () -> {
            UnpatternedRows x = with("132,4321", "12,54321", "1", "");
            due("make(0, 4, 0, 3): with all", x.make(0, 4, 0, 3), 2);
            bases(x, 0, 132, 4321);
            due("make(3, 4, 0, 1)", x.make(3, 4, 0, 1), 2);
            bases(x, 3, 12, 4321);
            due("make(3, 4, 3, 2)", x.make(3, 4, 3, 2), 1);
            bases(x, 3, 1);
            due("make(1, 4, 1, 1): with itself", x.make(1, 4, 1, 1), 2);
            bases(x, 1, 12, 54321);
        });
        sentence(7, "-2 (nothing changes): TOO MUCH", () -> {
            UnpatternedRows x = with(ofLength5(0, 12), ofLength5(60, 12), ofLength5(60, 13), "132");
            due("make(3, 4, 0, 2): 25", x.make(3, 4, 0, 2), -2);
            bases(x, 3, 132);
            due("make(0, 4, 0, 2): 25", x.make(0, 4, 0, 2), -2);
            due("basis(0, NONE)", x.basis(0, NONE), 12);
            due("undo(): the four of tell() are left", x.undo(), 3);
            bases(x, 3);
            due("make(3, 4, 0, 1): 24", x.make(3, 4, 0, 1), 24);
            due("basis(3, 23)", x.basis(3, 23), ALL.avoider(0, 5, 71));
            due("make(3, 4, 1, 2): 13, though 25 are told", x.make(3, 4, 1, 2), 13);
        });
        sentence(7, "A BASIS of more than 24 is TOO MUCH.", () -> {
            UnpatternedRows x = with(ofLength5(0, 24), ofLength5(24, 24), "1", "12");
            due("make(2, 4, 0, 2): of 25, one stays", x.make(2, 4, 0, 2), 1);
            bases(x, 2, 1);
            due("make(2, 4, 0, 1): 48", x.make(2, 4, 0, 1), -2);
            bases(x, 2, 1);
            due("make(2, 4, 0, 0): 24", x.make(2, 4, 0, 0), 24);
            due("make(2, 4, 0, 3): of 25, one stays", x.make(2, 4, 0, 3), 1);
            bases(x, 2, 12);
            tell(x, 1, "123,132,213,231,4321");
            due("make(2, 4, 0, 1): of 29, five stay", x.make(2, 4, 0, 1), 5);
            bases(x, 2, 123, 132, 213, 231, 4321);
            due("make(3, 4, 1, 0): the other way round", x.make(3, 4, 1, 0), 5);
            bases(x, 3, 123, 132, 213, 231, 4321);
        });
    }

    private static void makeRefused() {
        sentence(7, "NONE (nothing changes): no such PLACES, another how", () -> {
            UnpatternedRows x = with("132");
            for (int place : NO_PLACES) {
                due("make(" + place + ", 0, 0, 0)", x.make(place, 0, 0, 0), NONE);
                due("make(0, 0, " + place + ", 0)", x.make(0, 0, place, 0), NONE);
                due("make(0, 4, " + place + ", 0)", x.make(0, 4, place, 0), NONE);
                due("make(0, 4, 0, " + place + ")", x.make(0, 4, 0, place), NONE);
            }
            for (int how : new int[] {Integer.MIN_VALUE, -1, 5, Integer.MAX_VALUE}) {
                due("make(0, " + how + ", 0, 0)", x.make(0, how, 0, 0), NONE);
            }
            bases(x, 0, 132);
            due("undo(): tell() alone can be", x.undo(), 0);
        });
        sentence(7, "(j is any where it isn't told.)", () -> {
            UnpatternedRows x = with("1342");
            for (int how = 0; how <= 3; how++) {
                for (int j : NO_PLACES) {
                    due("make(1, " + how + ", 0, " + j + ")", x.make(1, how, 0, j), 1);
                }
            }
            due("undo()", x.undo(), 16);
        });
    }

    private static void undo() {
        sentence(8, "The latest tell(), under(), make() by which a PLACE got a CLASS (also the one that it had) is undone", () -> {
            UnpatternedRows x = new UnpatternedRows();
            tell(x, 0, "132");
            under(x, 0, "1");
            x.make(0, 1, 0, 0);
            x.make(0, 0, 0, 0);
            x.tell(1, 0);
            due("undo() of the empty class that it had", x.undo(), 4);
            bases(x, 1);
            bases(x, 0, 12, 21);
            due("undo() of make() of the same", x.undo(), 3);
            bases(x, 0, 12, 21);
            due("undo() of make() by which none changes", x.undo(), 2);
            bases(x, 0, 12, 21);
            due("undo() of under()", x.undo(), 1);
            bases(x, 0, 132);
            due("undo() of tell()", x.undo(), 0);
            bases(x, 0);
            due("many(0, 8)", x.many(0, 8), 40320);
        });
        sentence(8, "by which a PLACE got a CLASS", () -> {
            UnpatternedRows x = with("132");
            tell(x, 0, "x");
            under(x, 0, "13");
            under(x, 0, "123,1342,54231,45213");
            x.make(0, 5, 0, 0);
            x.make(4, 0, 0, 0);
            thrown("tell(4, 0)", () -> x.tell(4, 0), ILLEGAL);
            inflate(x, "1[1]");
            ask(x, 0, 3, "total 1");
            due("undo(): what was refused isn't undone", x.undo(), 0);
            bases(x, 0);
        });
        sentence(8, "is undone", () -> {
            UnpatternedRows x = new UnpatternedRows();
            known(x, 40320, 23, 6, 6, 15, NONE);
            tell(x, 0, "132");
            known(x, 1430, 13, 0, 1, 9, 3);
            tell(x, 0, "12");
            known(x, 1, 0, 0, 0, NONE, 2);
            due("undo()", x.undo(), 1);
            known(x, 1430, 13, 0, 1, 9, 3);
            due("undo()", x.undo(), 0);
            known(x, 40320, 23, 6, 6, 15, NONE);
        });
        sentence(8, "NONE: none can", () -> {
            UnpatternedRows x = new UnpatternedRows();
            due("undo() of a new object", x.undo(), NONE);
            tell(x, 2, "12");
            due("undo()", x.undo(), 0);
            due("undo(): it can't be done again", x.undo(), NONE);
            bases(x, 2);
            tell(x, 2, "21");
            due("undo()", x.undo(), 0);
        });
    }

    /** What is known of the class of PLACE 0 is that of the class that it has now. */
    private static void known(UnpatternedRows x, int ofLength8, int rank, int simple, int withFourSites, int sites, int parts) {
        due("many(0, 8)", x.many(0, 8), ofLength8);
        due("rank(0, 4321)", x.rank(0, 4321), rank);
        due("avoider(0, 4, " + rank + ")", x.avoider(0, 4, rank), 4321);
        due("simples(0, 5)", x.simples(0, 5), simple);
        due("ask(0, 3, 'many sites = 4')", ask(x, 0, 3, "many sites = 4"), withFourSites);
        due("labelled(0, 3, 4)", x.labelled(0, 3, 4), withFourSites);
        due("sites(0, 213)", x.sites(0, 213), sites);
        due("parts(0, 1, false)", x.parts(0, 1, false), parts);
    }

    private static void undoAtMost() {
        sentence(8, "(20 of them at most): how many still can be", () -> {
            UnpatternedRows x = new UnpatternedRows();
            for (int time = 0; time < 47; time++) {
                tell(x, time % 4, "" + ALL.avoider(0, 5, time));
            }
            for (int left = 19; left >= 0; left--) {
                due("undo()", x.undo(), left);
                int undone = 27 + left;
                bases(x, undone % 4, ALL.avoider(0, 5, undone - 4));
            }
            due("undo() of the 21st", x.undo(), NONE);
            for (int time = 23; time < 27; time++) {
                bases(x, time % 4, ALL.avoider(0, 5, time));
            }
        });
        sentence(8, "how many still can be", () -> {
            UnpatternedRows x = new UnpatternedRows();
            for (int time = 0; time < 19; time++) {
                tell(x, 0, "12");
            }
            due("undo() of the 19th", x.undo(), 18);
            tell(x, 0, "12");
            tell(x, 0, "21");
            due("undo() of the 20th", x.undo(), 19);
            tell(x, 0, "123");
            tell(x, 0, "321");
            tell(x, 0, "132");
            due("undo() of more than 20", x.undo(), 19);
            bases(x, 0, 321);
        });
    }

    private static void basis() {
        sentence(9, "i NONE: how many", () -> {
            UnpatternedRows x = with("132,4321");
            due("basis(0, NONE)", x.basis(0, NONE), 2);
            due("basis(3, NONE)", x.basis(3, NONE), 0);
            tell(x, 3, ofLength5(0, 24));
            due("basis(3, NONE)", x.basis(3, NONE), 24);
        });
        sentence(9, "NoSuchElementException: no such PLACE, PERMUTATION.", () -> {
            UnpatternedRows x = with("132,4321");
            due("basis(0, 1): the last", x.basis(0, 1), 4321);
            for (int i : new int[] {Integer.MIN_VALUE, -2, 2, 24, 48, Integer.MAX_VALUE}) {
                thrown("basis(0, " + i + ")", () -> x.basis(0, i), NO_SUCH);
            }
            thrown("basis(1, 0) of an empty one", () -> x.basis(1, 0), NO_SUCH);
            for (int place : NO_PLACES) {
                thrown("basis(" + place + ", 0)", () -> x.basis(place, 0), NO_SUCH);
                thrown("basis(" + place + ", NONE)", () -> x.basis(place, NONE), NO_SUCH);
            }
        });
    }

    private static void many() {
        sentence(10, "c(0) .. c(8), how many AVOIDERS there are of each LENGTH", () -> {
            UnpatternedRows x = with("1", "12,21", "123456");
            int[][] counts = {{1, 0, 0, 0, 0, 0, 0, 0, 0}, {1, 1, 0, 0, 0, 0, 0, 0, 0}, {1, 1, 2, 6, 24, 120, 719, 5003, 39429}};
            for (int place = 0; place < 3; place++) {
                for (int n = 0; n <= 8; n++) {
                    due("many(" + place + ", " + n + ")", x.many(place, n), counts[place][n]);
                }
            }
        });
        sentence(10, "NoSuchElementException: no such PLACE, n not 0 to 8.", () -> {
            UnpatternedRows x = new UnpatternedRows();
            for (int n : new int[] {Integer.MIN_VALUE, -1, 9, Integer.MAX_VALUE}) {
                thrown("many(0, " + n + ")", () -> x.many(0, n), NO_SUCH);
            }
            for (int place : NO_PLACES) {
                thrown("many(" + place + ", 0)", () -> x.many(place, 0), NO_SUCH);
            }
        });
    }

    private static void avoider() {
        sentence(11, "The i-th (0 on, in ORDER) AVOIDER of LENGTH n.", () -> {
            UnpatternedRows x = with("", "1", "12");
            due("avoider(0, 0, 0)", x.avoider(0, 0, 0), 0);
            due("avoider(1, 0, 0)", x.avoider(1, 0, 0), 0);
            due("avoider(0, 1, 0)", x.avoider(0, 1, 0), 1);
            due("avoider(0, 8, 0)", x.avoider(0, 8, 0), 12345678);
            due("avoider(0, 8, 63)", x.avoider(0, 8, 63), 12367584);
            due("avoider(0, 8, 64)", x.avoider(0, 8, 64), 12367845);
            due("avoider(0, 8, 40319)", x.avoider(0, 8, 40319), 87654321);
            due("avoider(2, 8, 0)", x.avoider(2, 8, 0), 87654321);
        });
        sentence(11, "NoSuchElementException: no such PLACE, n, AVOIDER.", () -> {
            UnpatternedRows x = with("", "1", "12");
            thrown("avoider(0, 8, 40320)", () -> x.avoider(0, 8, 40320), NO_SUCH);
            thrown("avoider(0, 0, 1)", () -> x.avoider(0, 0, 1), NO_SUCH);
            thrown("avoider(1, 1, 0)", () -> x.avoider(1, 1, 0), NO_SUCH);
            thrown("avoider(1, 8, 0)", () -> x.avoider(1, 8, 0), NO_SUCH);
            thrown("avoider(2, 8, 1)", () -> x.avoider(2, 8, 1), NO_SUCH);
            for (int far : new int[] {Integer.MIN_VALUE, -1, 9, Integer.MAX_VALUE}) {
                thrown("avoider(0, " + far + ", 0)", () -> x.avoider(0, far, 0), NO_SUCH);
                thrown("avoider(0, 3, " + far + ")", () -> x.avoider(0, 3, far), NO_SUCH);
            }
            for (int place : NO_PLACES) {
                thrown("avoider(" + place + ", 0, 0)", () -> x.avoider(place, 0, 0), NO_SUCH);
            }
        });
    }

    private static void rank() {
        sentence(12, "Which of the AVOIDERS of its LENGTH (0 on) a PERMUTATION is; NONE: it is none.", () -> {
            UnpatternedRows x = with("", "1", "12", "132");
            due("rank(0, 12345678)", x.rank(0, 12345678), 0);
            due("rank(0, 87654321)", x.rank(0, 87654321), 40319);
            due("rank(0, 12367845)", x.rank(0, 12367845), 64);
            due("rank(1, 1)", x.rank(1, 1), NONE);
            due("rank(1, 87654321)", x.rank(1, 87654321), NONE);
            due("rank(2, 87654321)", x.rank(2, 87654321), 0);
            due("rank(2, 87654312)", x.rank(2, 87654312), NONE);
            due("rank(3, 132)", x.rank(3, 132), NONE);
            due("rank(3, 123)", x.rank(3, 123), 0);
            due("rank(3, 321)", x.rank(3, 321), 4);
        });
        sentence(12, "(0: that of LENGTH 0)", () -> {
            UnpatternedRows x = with("", "1", "12,21");
            for (int place = 0; place < 4; place++) {
                due("rank(" + place + ", 0)", x.rank(place, 0), 0);
            }
        });
    }

    private static void rankRefused() {
        sentence(12, "NoSuchElementException: no such PLACE.", () -> {
            for (int place : NO_PLACES) {
                thrown("rank(" + place + ", 1)", () -> ALL.rank(place, 1), NO_SUCH);
            }
        });
        sentence(12, "IllegalArgumentException (behind that, as everywhere below): what is told is no PERMUTATION.", () -> {
            for (int wrong : NO_PERMUTATIONS) {
                thrown("rank(0, " + wrong + ")", () -> ALL.rank(0, wrong), ILLEGAL);
                thrown("rank(4, " + wrong + ")", () -> ALL.rank(4, wrong), NO_SUCH);
            }
        });
        sentence(12, "A PERMUTATION of LENGTH n (0 to 8) is a row of the numbers 1 to n, each once.", () -> {
            due("rank(0, 0)", ALL.rank(0, 0), 0);
            due("rank(0, 1)", ALL.rank(0, 1), 0);
            due("rank(0, 21436587)", ALL.rank(0, 21436587), 5040 + 120 + 6 + 1);
            thrown("rank(0, 123456789)", () -> ALL.rank(0, 123456789), ILLEGAL);
            thrown("rank(0, 2)", () -> ALL.rank(0, 2), ILLEGAL);
            thrown("rank(0, 22)", () -> ALL.rank(0, 22), ILLEGAL);
        });
    }
}
