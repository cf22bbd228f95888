/** For each promise of the document: ordinary calls, the edges that it names, and wrong ones. */
public final class PromisesTest extends Checks {
    public static void main(String[] args) {
        newObject();
        feed();
        tell();
        tellFaults();
        under();
        inflate();
        fault();
        make();
        undo();
        basis();
        many();
        avoider();
        rank();
        occurrences();
        occurrence();
        sites();
        labelled();
        rule();
        of();
        part();
        simples();
        recurrence();
        degree();
        parts();
        askValues();
        askHeads();
        askTests();
        askFaults();
        end();
    }

    private static void newObject() {
        tested = "promise 1";
        UnpatternedRows x = new UnpatternedRows();
        for (int place = 0; place < 4; place++) {
            due("basis(" + place + ", NONE)", x.basis(place, UnpatternedRows.NONE), 0);
            due("many(" + place + ", 8)", x.many(place, 8), 40320);
        }
        due("fault()", x.fault(), -1);
        due("undo()", x.undo(), -1);
        due("NONE", UnpatternedRows.NONE, -1);
    }

    private static void feed() {
        tested = "promise 2";
        UnpatternedRows x = new UnpatternedRows();
        for (int time = 1; time <= 10; time++) {
            due("feed, time " + time, x.feed(0x20202020, 0x20202020, 0x20202020, 0x20202020, 0x20202020), 20 * time);
        }
        due("feed, time 11", x.feed(0x31323334, 0, 0, 0, 0), -1);
        due("tell(0, 200) of blanks", x.tell(0, 200), 0);
        due("feed behind that", x.feed(0x33323120, 0x2c203132, 0x0a2c3231, 0x20202020, 0x20202031), 20);
        due("tell(0, 12)", x.tell(0, 12), 2);
        due("basis(0, 0)", x.basis(0, 0), 12);
        due("basis(0, 1)", x.basis(0, 1), 21);
        due("feed of high bytes", x.feed(0xFF323120, -1, -1, -1, -1), 20);
        due("tell of high bytes", x.tell(0, 4), -11);
    }

    private static void tell() {
        tested = "promise 3";
        UnpatternedRows x = new UnpatternedRows();
        due("tell(0, '')", x.tell(0, 0), 0);
        due("tell(1, '2143, 123, 1432, 123, 12345')", tell(x, 1, "2143, 123, 1432, 123, 12345"), 3);
        due("basis(1, 0)", x.basis(1, 0), 123);
        due("basis(1, 1)", x.basis(1, 1), 1432);
        due("basis(1, 2)", x.basis(1, 2), 2143);
        due("tell(2, '654321')", tell(x, 2, "654321"), 1);
        due("tell(2, '1,21,321')", tell(x, 2, "1,21,321"), 1);
        due("basis(2, 0)", x.basis(2, 0), 1);
        due("tell(3, 24 times 123)", tell(x, 3, times("123,", 23) + "123"), 1);
        due("tell reads n bytes alone", x.tell(3, text(x, "12,x") - 2), 1);
        due("the tape is empty then", x.feed(0, 0, 0, 0, 0), 20);
        thrown("tell(4, 0)", () -> x.tell(4, 0), ILLEGAL);
        thrown("tell(-1, 0)", () -> x.tell(-1, 0), ILLEGAL);
        thrown("tell(0, 21)", () -> x.tell(0, 21), ILLEGAL);
        thrown("tell(0, -1)", () -> x.tell(0, -1), ILLEGAL);
        due("the tape stays by exceptions", x.feed(0, 0, 0, 0, 0), 40);
        due("the basis, too", x.basis(3, 0), 12);
        due("tell of what isn't ROWS", x.tell(3, 1), -11);
        due("the tape is empty by faults", x.feed(0, 0, 0, 0, 0), 20);
        due("the basis stays by faults", x.basis(3, 0), 12);
    }

    private static void refused(String rows, int fault, int place) {
        UnpatternedRows x = new UnpatternedRows();
        due("tell(0, '" + rows + "')", tell(x, 0, rows), -10 - fault);
        due("fault() behind '" + rows + "'", x.fault(), place);
        due("undo() behind '" + rows + "'", x.undo(), -1);
    }

    private static void tellFaults() {
        refused(",", 1, 0);
        refused("12,", 1, 3);
        refused("12, \n ", 1, 6);
        refused("12,,21", 1, 3);
        refused("12 21", 1, 3);
        refused("x", 1, 0);
        refused("12;21", 1, 2);
        refused("12\t", 1, 2);
        refused("12,many", 1, 3);
        refused("12:", 1, 2);
        refused("12/", 1, 2);
        refused("0", 2, 0);
        refused("12,102", 2, 3);
        refused("012", 2, 0);
        refused("13", 2, 0);
        refused("11", 2, 0);
        refused("9", 2, 0);
        refused("1234567", 2, 0);
        refused(" 99999999999999999999", 2, 1);
        refused(times("123,", 24) + "132", 3, 96);
        refused(times("123,", 24) + "131", 2, 96);
        refused(times("123,", 24), 1, 96);
        refused(times("123,", 24) + ",", 1, 96);
    }

    private static void under() {
        tested = "promise 4";
        UnpatternedRows x = new UnpatternedRows();
        due("under(0, '132')", under(x, 0, "132"), 5);
        due("basis(0, 0)", x.basis(0, 0), 123);
        due("basis(0, 4)", x.basis(0, 4), 321);
        due("many(0, 3)", x.many(0, 3), 1);
        due("many(0, 4)", x.many(0, 4), 0);
        due("under(1, '')", x.under(1, 0), 1);
        due("basis(1, 0)", x.basis(1, 0), 1);
        due("many(1, 0)", x.many(1, 0), 1);
        due("under(1, '1')", under(x, 1, "1"), 2);
        due("basis(1, 1)", x.basis(1, 1), 21);
        due("under(2, '12345')", under(x, 2, "12345"), 2);
        due("basis(2, 0)", x.basis(2, 0), 21);
        due("basis(2, 1)", x.basis(2, 1), 123456);
        due("under(2, '21, 12')", under(x, 2, "21, 12"), 6);
        due("under of all of length 3", under(x, 2, "123,132,213,231,312,321"), 24);
        due("basis(2, 23)", x.basis(2, 23), 4321);
        due("under: too much", under(x, 2, "1234,1243,1324,1342,1423,1432,2134,2143,2314,2341,2413,2431,"
                + "3124,3142,3214,3241,3412,3421,4123,4132,4213,4231,4312,4321"), -2);
        due("fault()", x.fault(), -1);
        due("that changes nothing", x.basis(2, 23), 4321);
        due("undo() passes it", x.undo(), 5);
        due("under of length 6", under(x, 2, "123456"), -12);
        due("fault()", x.fault(), 0);
        due("under of no ROWS", under(x, 2, "12["), -11);
        due("under of 25 ROWS", under(x, 2, times("12,", 24) + "1"), -13);
        due("fault()", x.fault(), 72);
        thrown("under(4, 0)", () -> x.under(4, 0), ILLEGAL);
        thrown("under(0, 1)", () -> x.under(0, 1), ILLEGAL);
        thrown("under(0, -1)", () -> x.under(0, -1), ILLEGAL);
        due("fault() stays by exceptions", x.fault(), 72);
    }

    private static void inflate() {
        tested = "promise 5";
        UnpatternedRows x = new UnpatternedRows();
        due("2413[12,1,21,1]", inflate(x, "2413[12,1,21,1]"), 346215);
        due("1[1]", inflate(x, "1[1]"), 1);
        due("1[87654321]", inflate(x, "1[87654321]"), 87654321);
        due("21[ 1234 , 4321 ]", inflate(x, "21[ 1234 , 4321 ]"), 56784321);
        due("12[12345678,1]", inflate(x, "12[12345678,1]"), -2);
        due("fault()", x.fault(), -1);
        due("12345678[1,1,1,1,1,1,1,1]", inflate(x, "12345678[1,1,1,1,1,1,1,1]"), 12345678);
        String[] texts = {"", "x", "12", "12 1", "12[", "12[]", "12[1]", "12[1,1", "12[1,1]]", "12[1 1]", "12[1,]", "12[1,1,]",
            "12[1,1,1]", "12[1,1,10]", "13[1,1]", "123456789", "12[1,0]", "12[1,1", "[1]", "12(1,1)", "12[1,1,1"};
        int[] faults = {1, 1, 1, 1, 1, 1, 1, 1, 1, 1, 1, 1, 3, 2, 2, 2, 2, 1, 1, 1, 3};
        int[] places = {0, 0, 2, 3, 3, 3, 4, 6, 7, 5, 5, 7, 7, 7, 0, 0, 5, 6, 0, 2, 7};
        for (int at = 0; at < texts.length; at++) {
            due(texts[at], inflate(x, texts[at]), -10 - faults[at]);
            due("fault() behind " + texts[at], x.fault(), places[at]);
        }
        x.feed(0x315b315d, 0, 0, 0, 0);
        thrown("inflate(-1)", () -> x.inflate(-1), ILLEGAL);
        thrown("inflate(21)", () -> x.inflate(21), ILLEGAL);
        due("the tape stays by exceptions", x.inflate(4), 1);
        thrown("the tape is empty then", () -> x.inflate(4), ILLEGAL);
    }

    private static void fault() {
        tested = "promise 6";
        UnpatternedRows x = new UnpatternedRows();
        due("fault() of a new object", x.fault(), -1);
        due("tell", tell(x, 0, "  12 x"), -11);
        due("fault()", x.fault(), 5);
        x.many(0, 3);
        x.make(1, 1, 0, 0);
        x.undo();
        due("fault() stays by other calls", x.fault(), 5);
        due("ask", ask(x, 0, 2, "many 1 = 1"), 2);
        due("fault() behind a question without one", x.fault(), -1);
        due("ask", ask(x, 0, 2, "many 1 = 1000"), -1000000002);
        due("fault()", x.fault(), 9);
        due("inflate", inflate(x, "1[1]"), 1);
        due("fault()", x.fault(), -1);
        due("under", under(x, 0, "132,14"), -12);
        due("fault()", x.fault(), 4);
        thrown("ask(9, 0, 0)", () -> x.ask(9, 0, 0), ILLEGAL);
        due("fault() stays by exceptions", x.fault(), 4);
        due("tell", x.tell(0, 0), 0);
        due("fault()", x.fault(), -1);
    }

    private static void make() {
        tested = "promise 7";
        UnpatternedRows x = with("1342, 2314", "4312, 231", "21");
        due("make(3, 0, 0, 99)", x.make(3, 0, 0, 99), 2);
        due("basis(3, 1)", x.basis(3, 1), 2314);
        due("make(3, 1, 0, -5)", x.make(3, 1, 0, -5), 2);
        due("basis(3, 0)", x.basis(3, 0), 2431);
        due("basis(3, 1)", x.basis(3, 1), 4132);
        due("make(3, 2, 0, 0)", x.make(3, 2, 0, 0), 2);
        due("basis(3, 0)", x.basis(3, 0), 3241);
        due("basis(3, 1)", x.basis(3, 1), 4213);
        due("make(3, 3, 0, 0)", x.make(3, 3, 0, 0), 2);
        due("basis(3, 0)", x.basis(3, 0), 1423);
        due("basis(3, 1)", x.basis(3, 1), 3124);
        due("make(3, 4, 0, 2)", x.make(3, 4, 0, 2), 1);
        due("basis(3, 0)", x.basis(3, 0), 21);
        due("make(0, 1, 0, 0) on itself", x.make(0, 1, 0, 0), 2);
        due("basis(0, 0)", x.basis(0, 0), 2431);
        int[][] none = {{4, 0, 0, 0}, {-1, 0, 0, 0}, {0, 0, 4, 0}, {0, 0, -1, 0}, {0, -1, 0, 0}, {0, 5, 0, 0}, {0, 4, 0, 4}, {0, 4, 0, -1}};
        for (int[] one : none) {
            due("make(" + one[0] + ", " + one[1] + ", " + one[2] + ", " + one[3] + ")", x.make(one[0], one[1], one[2], one[3]), -1);
        }
        due("basis(0, 0) stays", x.basis(0, 0), 2431);
        under(x, 1, "123,132,213,231,312,321");
        tell(x, 2, "54321");
        due("make(0, 4, 1, 2)", x.make(0, 4, 1, 2), 24);
        tell(x, 1, "12345,12354,12435,12453,12534,12543,13245,13254,13425,13452,13524,13542");
        tell(x, 2, "54321,54312,54231,54213,54132,54123,53421,53412,53241,53214,53142,53124,52431");
        due("make(0, 4, 1, 2): too much", x.make(0, 4, 1, 2), -2);
        due("basis(0, 0) stays", x.basis(0, 0), 1234);
        due("make(0, 4, 1, 1)", x.make(0, 4, 1, 1), 12);
    }

    private static void undo() {
        tested = "promise 8";
        UnpatternedRows x = new UnpatternedRows();
        due("undo()", x.undo(), -1);
        tell(x, 0, "123");
        tell(x, 0, "123");
        under(x, 1, "1");
        x.make(0, 1, 0, 0);
        x.make(9, 1, 0, 0);
        tell(x, 0, "12x");
        due("undo()", x.undo(), 3);
        due("basis(0, 0)", x.basis(0, 0), 123);
        due("undo()", x.undo(), 2);
        due("basis(1, NONE)", x.basis(1, -1), 0);
        due("many(1, 8)", x.many(1, 8), 40320);
        due("undo() of the same class", x.undo(), 1);
        due("basis(0, 0)", x.basis(0, 0), 123);
        due("undo()", x.undo(), 0);
        due("basis(0, NONE)", x.basis(0, -1), 0);
        due("undo()", x.undo(), -1);
        tell(x, 2, "12");
        tell(x, 2, "21");
        for (int time = 0; time < 20; time++) {
            x.make(3, 0, 2, 0);
        }
        for (int left = 19; left >= 0; left--) {
            due("undo()", x.undo(), left);
        }
        due("undo() of the 21st", x.undo(), -1);
        due("basis(2, 0) stays", x.basis(2, 0), 21);
        due("basis(3, NONE)", x.basis(3, -1), 0);
    }

    private static void basis() {
        tested = "promise 9";
        UnpatternedRows x = with("321,21345");
        due("basis(0, NONE)", x.basis(0, -1), 2);
        due("basis(0, 0)", x.basis(0, 0), 321);
        due("basis(0, 1)", x.basis(0, 1), 21345);
        thrown("basis(0, 2)", () -> x.basis(0, 2), NO_SUCH);
        thrown("basis(0, -2)", () -> x.basis(0, -2), NO_SUCH);
        thrown("basis(1, 0)", () -> x.basis(1, 0), NO_SUCH);
        thrown("basis(4, NONE)", () -> x.basis(4, -1), NO_SUCH);
        thrown("basis(-1, NONE)", () -> x.basis(-1, -1), NO_SUCH);
    }

    private static void many() {
        tested = "promise 10";
        UnpatternedRows x = with("132", "1342", "1324", "1");
        int[][] counts = {{1, 1, 2, 5, 14, 42, 132, 429, 1430}, {1, 1, 2, 6, 23, 103, 512, 2740, 15485},
            {1, 1, 2, 6, 23, 103, 513, 2762, 15793}, {1, 0, 0, 0, 0, 0, 0, 0, 0}};
        for (int place = 0; place < 4; place++) {
            for (int n = 8; n >= 0; n--) {
                due("many(" + place + ", " + n + ")", x.many(place, n), counts[place][n]);
            }
        }
        tell(x, 0, "2413,3142");
        due("many(0, 8): large Schroeder numbers", x.many(0, 8), 8558);
        thrown("many(0, -1)", () -> x.many(0, -1), NO_SUCH);
        thrown("many(0, 9)", () -> x.many(0, 9), NO_SUCH);
        thrown("many(4, 0)", () -> x.many(4, 0), NO_SUCH);
        thrown("many(-1, 0)", () -> x.many(-1, 0), NO_SUCH);
    }

    private static void avoider() {
        tested = "promise 11";
        UnpatternedRows x = with("132", "1", "");
        int[] three = {123, 213, 231, 312, 321};
        for (int i = 0; i < 5; i++) {
            due("avoider(0, 3, " + i + ")", x.avoider(0, 3, i), three[i]);
        }
        due("avoider(0, 0, 0)", x.avoider(0, 0, 0), 0);
        due("avoider(1, 0, 0)", x.avoider(1, 0, 0), 0);
        due("avoider(2, 8, 0)", x.avoider(2, 8, 0), 12345678);
        due("avoider(2, 8, 40319)", x.avoider(2, 8, 40319), 87654321);
        due("avoider(2, 8, 5040)", x.avoider(2, 8, 5040), 21345678);
        thrown("avoider(0, 3, 5)", () -> x.avoider(0, 3, 5), NO_SUCH);
        thrown("avoider(0, 3, -1)", () -> x.avoider(0, 3, -1), NO_SUCH);
        thrown("avoider(0, 9, 0)", () -> x.avoider(0, 9, 0), NO_SUCH);
        thrown("avoider(0, -1, 0)", () -> x.avoider(0, -1, 0), NO_SUCH);
        thrown("avoider(1, 1, 0)", () -> x.avoider(1, 1, 0), NO_SUCH);
        thrown("avoider(4, 0, 0)", () -> x.avoider(4, 0, 0), NO_SUCH);
    }

    private static void rank() {
        tested = "promise 12";
        UnpatternedRows x = with("321", "1", "");
        for (int i = 0; i < 1430; i++) {
            due("rank(0, avoider(0, 8, " + i + "))", x.rank(0, x.avoider(0, 8, i)), i);
        }
        due("rank(0, 321)", x.rank(0, 321), -1);
        due("rank(0, 312)", x.rank(0, 312), 4);
        due("rank(0, 0)", x.rank(0, 0), 0);
        due("rank(1, 0)", x.rank(1, 0), 0);
        due("rank(1, 1)", x.rank(1, 1), -1);
        due("rank(2, 87654321)", x.rank(2, 87654321), 40319);
        for (int time = 0; time < 18; time++) {
            ranks(x, 2, time < 9 ? time : 17 - time);
        }
        tell(x, 2, "12345");
        for (int time = 0; time < 18; time++) {
            ranks(x, 2, time < 9 ? 8 - time : time - 9);
        }
        thrown("rank(0, 10)", () -> x.rank(0, 10), ILLEGAL);
        thrown("rank(0, -12)", () -> x.rank(0, -12), ILLEGAL);
        thrown("rank(0, 123456789)", () -> x.rank(0, 123456789), ILLEGAL);
        thrown("rank(4, 12)", () -> x.rank(4, 12), NO_SUCH);
        thrown("rank(4, 10)", () -> x.rank(4, 10), NO_SUCH);
    }

    /** What is known of avoiders of one length is nothing to those of another one. */
    private static void ranks(UnpatternedRows x, int place, int n) {
        int many = x.many(place, n);
        for (int i = 0; i < many; i += Math.max(1, many / 50)) {
            due("rank(" + place + ", avoider(" + place + ", " + n + ", " + i + "))", x.rank(place, x.avoider(place, n, i)), i);
        }
        int last = x.avoider(place, n, many - 1);
        due("the last one of length " + n, last, n == 0 ? 0 : Integer.parseInt("87654321".substring(8 - n)));
        due("rank(" + place + ", " + last + ")", x.rank(place, last), many - 1);
    }

    private static void occurrences() {
        tested = "promise 13";
        UnpatternedRows x = new UnpatternedRows();
        due("12 in 1324", x.occurrences(12, 1324), 5);
        due("1 in 87654321", x.occurrences(1, 87654321), 8);
        due("1234 in 12345678", x.occurrences(1234, 12345678), 70);
        due("0 in 0", x.occurrences(0, 0), 1);
        due("0 in 231", x.occurrences(0, 231), 1);
        due("1 in 0", x.occurrences(1, 0), 0);
        due("2413 in itself", x.occurrences(2413, 2413), 1);
        due("2413 in 3142", x.occurrences(2413, 3142), 0);
        due("132 in 12", x.occurrences(132, 12), 0);
        thrown("of 13", () -> x.occurrences(13, 12), ILLEGAL);
        thrown("in 13", () -> x.occurrences(12, 13), ILLEGAL);
        thrown("in -1", () -> x.occurrences(0, -1), ILLEGAL);
    }

    private static void occurrence() {
        tested = "promise 14";
        UnpatternedRows x = new UnpatternedRows();
        int[] firstOf231 = {1, 2, 4};
        int[] firstOf132 = {1, 2, 5};
        for (int i = 0; i < 3; i++) {
            due("occurrence(231, 34512, " + i + ")", x.occurrence(231, 34512, i), firstOf231[i]);
            due("occurrence(132, 24153, " + i + ")", x.occurrence(132, 24153, i), firstOf132[i]);
        }
        due("no such i", x.occurrence(132, 24153, 3), -1);
        due("no such i", x.occurrence(132, 24153, -1), -1);
        due("none", x.occurrence(321, 12345, 0), -1);
        due("of 0", x.occurrence(0, 12345, 0), -1);
        due("longer", x.occurrence(123, 12, 0), -1);
        due("the last of itself", x.occurrence(87654321, 87654321, 7), 8);
        thrown("of 101", () -> x.occurrence(101, 12, 0), ILLEGAL);
        thrown("in 22, no such i", () -> x.occurrence(1, 22, 9), ILLEGAL);
    }

    private static void sites() {
        tested = "promise 15";
        UnpatternedRows x = with("123", "231,4321", "1", "12");
        due("sites(0, 0)", x.sites(0, 0), 1);
        due("sites(0, 21)", x.sites(0, 21), 7);
        due("sites(0, 12)", x.sites(0, 12), 3);
        due("sites(0, 123)", x.sites(0, 123), -1);
        due("sites(1, 21)", x.sites(1, 21), 5);
        due("sites(1, 321)", x.sites(1, 321), 8);
        due("sites(2, 0)", x.sites(2, 0), 0);
        due("sites(2, 1)", x.sites(2, 1), -1);
        due("sites(3, 7654321)", x.sites(3, 7654321), 1);
        due("sites(3, 87654321)", x.sites(3, 87654321), -1);
        due("sites(1, 7654321)", x.sites(1, 7654321), -1);
        thrown("sites(0, 20)", () -> x.sites(0, 20), ILLEGAL);
        thrown("sites(4, 20)", () -> x.sites(4, 20), NO_SUCH);
        thrown("sites(-1, 1)", () -> x.sites(-1, 1), NO_SUCH);
    }

    private static void labelled() {
        tested = "promise 16";
        UnpatternedRows x = with("123", "1", "12,21");
        int[] four = {0, 0, 5, 5, 3, 1};
        for (int k = 0; k < four.length; k++) {
            due("labelled(0, 4, " + k + ")", x.labelled(0, 4, k), four[k]);
        }
        due("labelled(0, 0, 1)", x.labelled(0, 0, 1), 1);
        due("labelled(0, 7, 8)", x.labelled(0, 7, 8), 1);
        due("labelled(0, 7, 9)", x.labelled(0, 7, 9), 0);
        due("labelled(0, 7, -1)", x.labelled(0, 7, -1), 0);
        due("labelled(1, 0, 0)", x.labelled(1, 0, 0), 1);
        due("labelled(1, 1, 0)", x.labelled(1, 1, 0), 0);
        due("labelled(2, 1, 0)", x.labelled(2, 1, 0), 1);
        due("labelled(3, 7, 8)", x.labelled(3, 7, 8), 5040);
        thrown("labelled(0, 8, 1)", () -> x.labelled(0, 8, 1), NO_SUCH);
        thrown("labelled(0, -1, 1)", () -> x.labelled(0, -1, 1), NO_SUCH);
        thrown("labelled(4, 0, 1)", () -> x.labelled(4, 0, 1), NO_SUCH);
    }

    private static void rule() {
        tested = "promise 17";
        UnpatternedRows x = with("123", "1234", "12,21");
        for (int k = 2; k <= 7; k++) {
            for (int j = 1; j <= 8; j++) {
                due("rule(0, " + k + ", " + j + ")", x.rule(0, k, j), j >= 2 && j <= k + 1 ? 1 : 0);
            }
        }
        due("rule(0, 0, 0)", x.rule(0, 0, 0), -1);
        due("rule(0, 8, 3)", x.rule(0, 8, 3), -1);
        due("rule(0, -1, 3)", x.rule(0, -1, 3), -1);
        due("rule(0, 3, 99)", x.rule(0, 3, 99), 0);
        due("rule(0, 3, -1)", x.rule(0, 3, -1), 0);
        due("rule(1, 4, 3)", x.rule(1, 4, 3), -2);
        due("rule(1, 1, 2)", x.rule(1, 1, 2), 1);
        due("rule(2, 0, 0)", x.rule(2, 0, 0), 0);
        due("rule(2, 1, 0)", x.rule(2, 1, 0), 1);
        due("rule(3, 7, 8)", x.rule(3, 7, 8), 7);
        tell(x, 2, "652341,1234,315426,132");
        due("labelled(2, 7, 0)", x.labelled(2, 7, 0), 1);
        due("rule(2, 0, 0): one of length 7 isn't looked at", x.rule(2, 0, 0), -1);
        tell(x, 3, "12");
        due("rule(3, 7, 8): what had seven sites is no avoider any more", x.rule(3, 7, 8), -1);
        due("rule(3, 1, 1)", x.rule(3, 1, 1), 1);
        thrown("rule(4, 1, 1)", () -> x.rule(4, 1, 1), NO_SUCH);
        thrown("rule(-1, 1, 1)", () -> x.rule(-1, 1, 1), NO_SUCH);
    }

    private static void of() {
        tested = "promise 18";
        UnpatternedRows x = new UnpatternedRows();
        int[][] known = {
            {0, 0, 0, 0, 0, 0, 0, 0, 0, 0, 0}, {1, 1, 0, 0, 1, 1, 1, 1, 0, 0, 1}, {21, 2, 1, 0, 2, 21, 21, 12, 1, 1, 1},
            {123, 3, 3, 0, 3, 123, 123, 321, 0, 0, 3}, {132, 3, 2, 0, 2, 12, 132, 231, 1, 1, 2},
            {2413, 4, 1, 1, 4, 2413, 3142, 3142, 1, 3, 1}, {3142, 4, 1, 1, 4, 3142, 2413, 2413, 2, 3, 1},
            {265134, 6, 3, 0, 4, 2413, 415632, 431562, 2, 8, 2}, {24153, 5, 1, 1, 5, 24153, 31524, 35142, 2, 4, 1},
            {56781234, 8, 13, 0, 2, 21, 56781234, 43218765, 1, 16, 4}};
        for (int[] one : known) {
            for (int what = 0; what <= 9; what++) {
                due("of(" + one[0] + ", " + what + ")", x.of(one[0], what), one[what + 1]);
            }
        }
        due("of(87654321, 1)", x.of(87654321, 1), 28);
        due("of(87654321, 3)", x.of(87654321, 3), 8);
        thrown("of(12, 10)", () -> x.of(12, 10), NO_SUCH);
        thrown("of(12, -1)", () -> x.of(12, -1), NO_SUCH);
        thrown("of(11, 10)", () -> x.of(11, 10), ILLEGAL);
        thrown("of(-1, 0)", () -> x.of(-1, 0), ILLEGAL);
        thrown("of(20, 0)", () -> x.of(20, 0), ILLEGAL);
        thrown("of(912345678, 0)", () -> x.of(912345678, 0), ILLEGAL);
        thrown("of(91234567, 0)", () -> x.of(91234567, 0), ILLEGAL);
        thrown("of(1234567890, 0)", () -> x.of(1234567890, 0), ILLEGAL);
    }

    private static void part() {
        tested = "promise 19";
        UnpatternedRows x = new UnpatternedRows();
        int[] parts = {1, 21, 1, 12};
        for (int i = 0; i < 4; i++) {
            due("part(265134, " + i + ")", x.part(265134, i), parts[i]);
        }
        due("part(1, 0)", x.part(1, 0), 1);
        due("part(21435, 1)", x.part(21435, 1), 21);
        due("part(21435, 2)", x.part(21435, 2), 1);
        due("part(56781234, 1)", x.part(56781234, 1), 1234);
        thrown("part(21435, 3)", () -> x.part(21435, 3), NO_SUCH);
        thrown("part(21435, -1)", () -> x.part(21435, -1), NO_SUCH);
        thrown("part(0, 0)", () -> x.part(0, 0), NO_SUCH);
        thrown("part(33, 9)", () -> x.part(33, 9), ILLEGAL);
    }

    private static void simples() {
        tested = "promise 20";
        UnpatternedRows x = with("", "321", "2413,3142", "1");
        int[][] counts = {{0, 0, 0, 0, 2, 6, 46, 338, 2926}, {0, 0, 0, 0, 2, 2, 7, 14, 37}, {0, 0, 0, 0, 0, 0, 0, 0, 0}};
        for (int place = 0; place < 3; place++) {
            for (int n = 0; n <= 8; n++) {
                due("simples(" + place + ", " + n + ")", x.simples(place, n), counts[place][n]);
            }
        }
        due("simples(3, 4)", x.simples(3, 4), 0);
        tell(x, 3, "");
        due("simples(3, 4) of another class", x.simples(3, 4), 2);
        under(x, 0, "2413");
        due("simples(0, 4) below 2413", x.simples(0, 4), 1);
        due("simples(0, 5) below 2413", x.simples(0, 5), 0);
        thrown("simples(0, 9)", () -> x.simples(0, 9), NO_SUCH);
        thrown("simples(0, -1)", () -> x.simples(0, -1), NO_SUCH);
        thrown("simples(4, 4)", () -> x.simples(4, 4), NO_SUCH);
    }

    private static void fractions(String rows, long... due) {
        UnpatternedRows x = with(rows);
        int k = due.length / 2;
        due("k of " + rows, x.recurrence(0, -1, false), k == 0 ? -1 : k);
        due("k of " + rows, x.recurrence(0, -1, true), k == 0 ? -1 : k);
        for (int i = 1; i <= k; i++) {
            due("upper " + i + " of " + rows, x.recurrence(0, i, false), due[2 * i - 2]);
            due("lower " + i + " of " + rows, x.recurrence(0, i, true), due[2 * i - 1]);
        }
        thrown("recurrence of " + rows, () -> x.recurrence(0, k + 1, false), NO_SUCH);
        thrown("recurrence of " + rows, () -> x.recurrence(0, 0, false), NO_SUCH);
        thrown("recurrence of " + rows, () -> x.recurrence(0, -2, true), NO_SUCH);
    }

    private static void recurrence() {
        tested = "promise 21";
        fractions("");
        fractions("1");
        fractions("123");
        fractions("12", 1, 1);
        fractions("12,21", 0, 1);
        fractions("12,321", 0, 1, 0, 1);
        fractions("123,132,213,231,312", 1, 1, 0, 1, 0, 1);
        fractions("123,132,213,231,312,4321", 0, 1, 0, 1, 0, 1);
        fractions("132,231", 2, 1);
        fractions("123,132,213", 1, 1, 1, 1);
        fractions("132,321", 3, 1, -3, 1, 1, 1);
        fractions("123,321");
        fractions("321,3412", 3, 1, -1, 1);
        fractions("321,2341,3412", 2, 1, 1, 1);
        fractions("123,231,321");
        UnpatternedRows x = new UnpatternedRows();
        thrown("recurrence(4, NONE)", () -> x.recurrence(4, -1, false), NO_SUCH);
        thrown("recurrence(-1, NONE)", () -> x.recurrence(-1, -1, false), NO_SUCH);
    }

    private static void degree() {
        tested = "promise 22";
        UnpatternedRows x = with("12", "132,321", "123", "1");
        due("degree(0)", x.degree(0), 0);
        due("degree(1)", x.degree(1), 2);
        due("degree(2)", x.degree(2), -1);
        due("degree(3)", x.degree(3), 0);
        tell(x, 0, "123,132,231");
        due("degree of n", x.degree(0), 1);
        tell(x, 0, "12,21");
        due("degree of 1, 0, 0 ..", x.degree(0), -1);
        tell(x, 0, "231,54123,132,3421,4231");
        due("degree of 1, 2, 4, 8, 15 ..", x.degree(0), 3);
        tell(x, 0, "132,4321");
        due("degree of 1, 2, 5, 13, 30 ..", x.degree(0), 4);
        tell(x, 0, "123,4231");
        due("degree of 1, 2, 5, 13, 32 ..", x.degree(0), 5);
        due("many(0, 8)", x.many(0, 8), 281);
        tell(x, 0, "");
        due("degree of all", x.degree(0), -1);
        thrown("degree(4)", () -> x.degree(4), NO_SUCH);
        thrown("degree(-1)", () -> x.degree(-1), NO_SUCH);
    }

    private static void parts() {
        tested = "promise 23";
        UnpatternedRows x = with("1342", "1324", "123456", "");
        due("parts(0, 1, false)", x.parts(0, 1, false), 6);
        due("parts(0, 1, true)", x.parts(0, 1, true), 4);
        due("parts(2, 3, false)", x.parts(2, 3, false), 6);
        due("parts(2, 3, true)", x.parts(2, 3, true), 6);
        due("parts(3, 2, true)", x.parts(3, 2, true), 6);
        due("parts(0, 0, true)", x.parts(0, 0, true), -1);
        due("parts(0, 0, false)", x.parts(0, 0, false), -1);
        tell(x, 3, "654321");
        due("as many of all lengths", x.parts(2, 3, false), -1);
        due("but not the same ones", x.parts(2, 3, true), 6);
        tell(x, 3, "1");
        due("parts(3, 2, false)", x.parts(3, 2, false), 1);
        thrown("parts(0, 4, true)", () -> x.parts(0, 4, true), NO_SUCH);
        thrown("parts(4, 0, false)", () -> x.parts(4, 0, false), NO_SUCH);
        thrown("parts(-1, 0, false)", () -> x.parts(-1, 0, false), NO_SUCH);
    }

    private static void asked(UnpatternedRows x, int place, int length, String question, int want) {
        due("ask(" + place + ", " + length + ", '" + question + "')", ask(x, place, length, question), want);
        due("fault() behind '" + question + "'", x.fault(), -1);
    }

    private static void askValues() {
        tested = "promise 24";
        UnpatternedRows x = with("", "123", "1");
        asked(x, 0, 4, "total length", 96);
        asked(x, 0, 4, "total first", 60);
        asked(x, 0, 4, "total last", 60);
        asked(x, 0, 4, "total descents", 36);
        asked(x, 0, 4, "total inversions", 72);
        asked(x, 0, 4, "total fixed", 24);
        asked(x, 0, 4, "total cycles", 50);
        asked(x, 0, 4, "total maxima", 50);
        asked(x, 0, 4, "total peaks", 16);
        asked(x, 0, 4, "total sites", 120);
        asked(x, 1, 4, "total sites", 42);
        asked(x, 0, 8, "total sites", 0);
        asked(x, 0, 4, "total simple", 2);
        asked(x, 0, 8, "total simple", 2926);
        asked(x, 0, 3, "total parts", 14);
        String[] values = {"length", "first", "last", "descents", "inversions", "fixed", "cycles", "maxima", "peaks", "simple", "parts"};
        int[] ofOne = {1, 1, 1, 0, 0, 1, 1, 1, 0, 0, 1};
        for (int at = 0; at < values.length; at++) {
            asked(x, 0, 0, "total " + values[at], 0);
            asked(x, 0, 1, "total " + values[at], ofOne[at]);
        }
        asked(x, 0, 0, "total sites", 1);
        asked(x, 2, 0, "total sites", 0);
    }

    private static void askHeads() {
        UnpatternedRows x = with("", "123", "1");
        asked(x, 0, 3, "most inversions", 3);
        asked(x, 0, 3, "least inversions - 5", -5);
        asked(x, 0, 3, "most 0 - first", -1);
        asked(x, 0, 3, "least first", 1);
        asked(x, 2, 1, "most 5", 0);
        asked(x, 2, 1, "least 5", 0);
        asked(x, 2, 1, "total 5", 0);
        asked(x, 2, 1, "many 1 = 1", 0);
        asked(x, 0, 8, "many 1 = 1", 40320);
        asked(x, 0, 8, "total 999 * 999", (int) (40320L * 999 * 999));
        asked(x, 0, 1, "total 999*999*999*999", (int) (999L * 999 * 999 * 999));
        asked(x, 0, 1, "most 999*999*999*3", (int) (999L * 999 * 999 * 3));
        asked(x, 0, 1, "total 10 - 3 - 2", 5);
        asked(x, 0, 1, "total 2+3*4", 14);
        asked(x, 0, 1, "total (2+3)*4", 20);
        asked(x, 0, 1, "total 10-(3-2)", 9);
        asked(x, 0, 1, "total 0000999", 999);
        asked(x, 0, 1, "\n total\n999 \n", 999);
        asked(x, 0, 1, "total((((((1))))))+((((((2))))))", 3);
    }

    private static void askTests() {
        UnpatternedRows x = with("", "123");
        asked(x, 0, 3, "many first < last", 3);
        asked(x, 0, 3, "many first > last", 3);
        asked(x, 0, 3, "many first = 2", 2);
        asked(x, 0, 3, "many not first = 2", 4);
        asked(x, 0, 3, "many not not first = 2", 2);
        asked(x, 0, 3, "many not first = 2 and last = 1", 1);
        asked(x, 0, 3, "many not {first = 2 and last = 1}", 5);
        asked(x, 0, 3, "many first = 1 or first = 2 and last = 1", 3);
        asked(x, 0, 3, "many {first = 1 or first = 2} and last = 1", 1);
        asked(x, 0, 3, "many first = 2 and last = 1 or first = 1", 3);
        asked(x, 0, 3, "many{{{{{{first=1}}}}}}", 2);
        asked(x, 0, 3, "many not not not not not not first=1 and not not not not not not last=2", 1);
        asked(x, 0, 3, "many (first + last) * 2 > 2 * length + 2 - 1", 4);
        asked(x, 1, 3, "many 1=1", 5);
    }

    private static void faulty(String question, int fault, int place) {
        UnpatternedRows x = with("123");
        due("ask(0, 3, '" + question + "')", ask(x, 0, 3, question), -1000000000 - fault);
        due("fault() behind '" + question + "'", x.fault(), place);
        due("the tape behind '" + question + "'", x.feed(0, 0, 0, 0, 0), 20);
    }

    private static void askFaults() {
        String[] stands = {"", "   ", "x", "manyx 1=1", "first", "1", "many", "many 1", "many 1=", "many 1=1 1", "many 1=1=1", "many (1=1)",
            "many {1}", "many {1=1", "many {1=1)", "many 1=1}", "total", "total 1=1", "total {1}", "total not 1", "total (1", "total 1)",
            "total ()", "total 1+", "total 1+*2", "total -1", "total first last", "total 1 or 2", "many 1=1 and", "many 1=1 and or 1=1",
            "many not", "many and", "total many", "total lengths", "total Length", "total 1,2", "total 1 #", "many 1 and 1=1", "many 1=1 not 1=1",
            "total 1\t", "many (1)=1}", "many {not 1=1}}", "total 1:", "total 1/", "total first`", "total first{", "total firsta",
            "total firstz", "total first1"};
        int[] places = {0, 3, 0, 0, 0, 0, 4, 6, 7, 9, 8, 7, 7, 9, 9, 8, 5, 7, 6, 6, 8, 7, 7, 8, 8, 6, 12, 8, 12, 13, 8, 5, 6, 6, 6, 7, 8, 7, 9,
            7, 10, 14, 7, 7, 11, 11, 6, 6, 11};
        for (int at = 0; at < stands.length; at++) {
            faulty(stands[at], 1, places[at]);
        }
        faulty("total 1000", 2, 6);
        faulty("total 99999999999999999999999", 2, 6);
        faulty("many 1 = 2000 x", 2, 9);
        faulty("total (((((((1", 3, 12);
        faulty("many not{not{not{not 1=1", 3, 17);
        faulty("many not not not not not not (1)=1", 3, 29);
        faulty("many {{{not not not 1 = (1", 3, 24);
        UnpatternedRows x = new UnpatternedRows();
        x.feed(0x746f7461, 0x6c203120, 0, 0, 0);
        thrown("ask(4, 0, 8)", () -> x.ask(4, 0, 8), ILLEGAL);
        thrown("ask(-1, 0, 8)", () -> x.ask(-1, 0, 8), ILLEGAL);
        thrown("ask(0, 9, 8)", () -> x.ask(0, 9, 8), ILLEGAL);
        thrown("ask(0, -1, 8)", () -> x.ask(0, -1, 8), ILLEGAL);
        thrown("ask(0, 0, 21)", () -> x.ask(0, 0, 21), ILLEGAL);
        thrown("ask(0, 0, -1)", () -> x.ask(0, 0, -1), ILLEGAL);
        due("the tape stays by exceptions", x.ask(0, 5, 8), 120);
        thrown("the tape is empty then", () -> x.ask(0, 5, 8), ILLEGAL);
    }
}
