/** The sentences that name boundary cases of texts: the tape, its tokens, ROWS, INFLATED, FAULTS; promises 2 to 6. */
public final class BoundaryTextsTest extends Sentences {
    private static final int BLANKS = 0x20202020;
    private static final String ALL_OF_LENGTH_3 = "123,132,213,231,312,321";
    private static final String ALL_OF_LENGTH_4 = "1234,1243,1324,1342,1423,1432,2134,2143,2314,2341,2413,2431,"
            + "3124,3142,3214,3241,3412,3421,4123,4132,4213,4231,4312,4321";

    public static void main(String[] args) {
        feed();
        tokens();
        rows();
        faultsOfRows();
        tell();
        tellRefused();
        under();
        underRefused();
        inflated();
        faultsOfInflated();
        inflateRefused();
        fault();
        end();
    }

    private static int blanks(UnpatternedRows x) {
        return x.feed(BLANKS, BLANKS, BLANKS, BLANKS, BLANKS);
    }

    /** A text that tell() refuses, as whose FAULT, and where. */
    private static void faulty(String rows, int fault, int place) {
        UnpatternedRows x = new UnpatternedRows();
        due("tell(0, '" + rows + "')", tell(x, 0, rows), -10 - fault);
        due("fault() behind '" + rows + "'", x.fault(), place);
    }

    private static void told(String rows, int size) {
        UnpatternedRows x = new UnpatternedRows();
        due("tell(0, '" + rows + "')", tell(x, 0, rows), size);
        due("fault() behind '" + rows + "'", x.fault(), NONE);
        due("basis(0, NONE) behind '" + rows + "'", x.basis(0, NONE), size);
    }

    private static void feed() {
        sentence(2, "Twenty bytes come behind the tape, of each number the highest first", () -> {
            UnpatternedRows x = new UnpatternedRows();
            x.feed(0x32312C31, 0x32332C20, 0x31333234, 0x2C313432, 0x332C2020);
            due("tell(0, 18): '21,123, 1324,1423,' ends with ','", x.tell(0, 18), -11);
            due("fault()", x.fault(), 18);
            x.feed(0x31333234, 0x20202020, BLANKS, BLANKS, 0x2020202C);
            x.feed(0x31343233, BLANKS, BLANKS, BLANKS, BLANKS);
            due("tell(0, 24): the second twenty stand behind the first", x.tell(0, 24), 2);
            due("basis(0, 0)", x.basis(0, 0), 1324);
            due("basis(0, 1)", x.basis(0, 1), 1423);
        });
        sentence(2, "of each number the highest first", () -> {
            UnpatternedRows x = new UnpatternedRows();
            x.feed(0xB1202020, 0, 0, 0, 0);
            due("tell(0, 1): 177 is no figure", x.tell(0, 1), -11);
            x.feed(0x8A313220, 0, 0, 0, 0);
            due("tell(0, 3): 138 is no blank", x.tell(0, 3), -11);
            x.feed(0x0A32310A, -1, -1, -1, -1);
            due("tell(0, 4)", x.tell(0, 4), 1);
            due("basis(0, 0)", x.basis(0, 0), 21);
        });
        sentence(2, "how many it has", () -> {
            UnpatternedRows x = new UnpatternedRows();
            for (int bytes = 20; bytes <= 200; bytes += 20) {
                due("feed", blanks(x), bytes);
            }
            due("tell(0, 7) empties it", x.tell(0, 7), 0);
            due("feed", blanks(x), 20);
        });
        sentence(2, "NONE, and none come, if it would have more than 200", () -> {
            UnpatternedRows x = new UnpatternedRows();
            for (int time = 0; time < 9; time++) {
                blanks(x);
            }
            due("feed to 200", x.feed(BLANKS, BLANKS, BLANKS, BLANKS, 0x20202C31), 200);
            due("feed to 220", x.feed(0x32333435, BLANKS, BLANKS, BLANKS, BLANKS), NONE);
            due("and again", x.feed(0x32333435, BLANKS, BLANKS, BLANKS, BLANKS), NONE);
            thrown("tell(0, 201)", () -> x.tell(0, 201), ILLEGAL);
            due("tell(0, 200): what was there stays", x.tell(0, 200), -11);
            due("fault()", x.fault(), 198);
            due("feed", blanks(x), 20);
        });
    }

    private static void tokens() {
        sentence(3, "TEXTS of at most 200 bytes (the tape's)", () -> {
            told(times("123456,", 23) + "654321" + times(" ", 33), 2);
            faulty(times("123456,", 23) + "654321" + times(" ", 32) + ".", 1, 199);
            faulty(times(" ", 194) + "12345,", 1, 200);
            told(times("\n", 199) + "1", 1);
        });
        sentence(3, "a NUMBER a row of figures that stand side by side", () -> {
            faulty("1 2", 1, 2);
            faulty("12\n34", 1, 3);
            faulty("12/", 1, 2);
            faulty("12:", 1, 2);
            told("12,3412", 1);
        });
        sentence(3, "any other byte but blanks (32, 10) is one by itself", () -> {
            for (int sign : new int[] {0, 9, 11, 13, 31, 33, 127, 128, 160, 255}) {
                faulty("12 " + bytes(sign) + "21", 1, 3);
                faulty(bytes(sign), 1, 0);
            }
            faulty("12,,21", 1, 3);
        });
        sentence(3, "blanks stand where one likes, not in WORDS, NUMBERS", () -> {
            told(" \n 12 \n\n , \n 21 \n ", 2);
            told(" ", 0);
            told("\n", 0);
            faulty("12 3", 1, 3);
        });
    }

    private static void rows() {
        sentence(3, "ROWS: {ROW (',' ROW)*}?.", () -> {
            UnpatternedRows x = with("12");
            due("tell(0, 0) without a byte on the tape", x.tell(0, 0), 0);
            due("basis(0, NONE)", x.basis(0, NONE), 0);
            due("many(0, 8)", x.many(0, 8), 40320);
            told("1", 1);
            faulty(",", 1, 0);
            faulty(",12", 1, 0);
        });
        sentence(3, "ROW: a NUMBER that tells a PERMUTATION of LENGTH 1 or more (as it is written, no 0 in it)", () -> {
            told("1", 1);
            for (String row : new String[] {"0", "00", "01", "10", "012", "102", "120", "2", "9", "11", "13", "133", "234"}) {
                faulty(row, 2, 0);
            }
        });
        sentence(3, "those of them in which no other one of them is (each once)", () -> {
            told("21,21,21", 1);
            told("123456,12345,1234,123,12,1", 1);
            told("1,12,123,1234,12345,123456", 1);
            told("132,1324,2143", 1);
            told("123,321", 2);
        });
        sentence(3, "A BASIS has at most 24 PERMUTATIONS of LENGTH 1 to 6", () -> {
            StringBuilder all = new StringBuilder();
            for (String row : ALL_OF_LENGTH_4.split(",")) {
                all.append(all.length() == 0 ? "" : ",").append("65").append(row);
            }
            UnpatternedRows x = new UnpatternedRows();
            due("tell of 24 of LENGTH 6", tell(x, 3, all.toString()), 24);
            due("basis(3, 0)", x.basis(3, 0), 651234);
            due("basis(3, 23)", x.basis(3, 23), 654321);
            due("many(3, 6)", x.many(3, 6), 696);
            thrown("basis(3, 24)", () -> x.basis(3, 24), NO_SUCH);
        });
        sentence(3, "ORDER of PERMUTATIONS: by LENGTH, of one LENGTH by that number.", () -> {
            UnpatternedRows x = with("123456,321,45123,2143,1342");
            int[] ordered = {321, 1342, 2143, 45123, 123456};
            due("basis(0, NONE)", x.basis(0, NONE), ordered.length);
            for (int i = 0; i < ordered.length; i++) {
                due("basis(0, " + i + ")", x.basis(0, i), ordered[i]);
            }
        });
        sentence(3, "none of which is IN another one of it, numbered in ORDER", () -> {
            UnpatternedRows x = with("54321,4312,321654,1243,12");
            due("basis(0, NONE)", x.basis(0, NONE), 2);
            due("basis(0, 0)", x.basis(0, 0), 12);
            due("basis(0, 1)", x.basis(0, 1), 54321);
            tell(x, 0, "213465,4321,21354,1432");
            due("basis(0, NONE)", x.basis(0, NONE), 3);
            due("basis(0, 0)", x.basis(0, 0), 1432);
            due("basis(0, 1)", x.basis(0, 1), 4321);
            due("basis(0, 2)", x.basis(0, 2), 21354);
        });
    }

    private static void faultsOfRows() {
        sentence(3, "at the first TOKEN at which one of these is so it is that (the first one of this list)", () -> {
            faulty("13 14", 2, 0);
            faulty("12 14", 1, 3);
            faulty("12,14,x", 2, 3);
            faulty("x,14", 1, 0);
            faulty(times("12,", 24) + "13", 2, 72);
            faulty(times("12,", 24) + "1234567", 2, 72);
            faulty(times("12,", 24) + ",", 1, 72);
        });
        sentence(3, "its place the TOKEN's first byte", () -> {
            faulty("   1234567890", 2, 3);
            faulty("12,\n\n 13", 2, 6);
            faulty("12 many", 1, 3);
            faulty("12,  \n", 1, 6);
        });
        sentence(3, "(the end, where the text can't end: its length; a WORD that isn't told, too)", () -> {
            faulty("12,", 1, 3);
            faulty("12, ", 1, 4);
            faulty("12,21,\n\n", 1, 8);
            faulty("rows", 1, 0);
            faulty("12,rows", 1, 3);
        });
        sentence(3, "2 a NUMBER that isn't as told (of a ROW: that is no PERMUTATION, or longer than its call says", () -> {
            faulty("1123", 2, 0);
            faulty("1,1234567", 2, 2);
            faulty("12345678", 2, 0);
            faulty(times("1", 200), 2, 0);
            faulty("4294967297", 2, 0);
            told("123456", 1);
        });
        sentence(3, "3 one too many: the 25th ROW of ROWS", () -> {
            told(times("12,", 23) + "12", 1);
            faulty(times("12,", 24) + "12", 3, 72);
            faulty(times("12 , ", 24) + "1", 3, 120);
            faulty(times("12,", 24), 1, 72);
            faulty(times("12,", 25), 3, 72);
        });
    }

    private static void tell() {
        sentence(3, "The tape's first n bytes (it is empty then, whatever comes of it)", () -> {
            UnpatternedRows x = new UnpatternedRows();
            text(x, "12,21x");
            due("tell(0, 5) of '12,21x'", x.tell(0, 5), 2);
            due("feed", blanks(x), 20);
            due("tell(0, 0) of blanks", x.tell(0, 0), 0);
            due("feed", blanks(x), 20);
            blanks(x);
            due("tell(0, 20) of 40", x.tell(0, 20), 0);
            thrown("tell(0, 1) of the empty tape", () -> x.tell(0, 1), ILLEGAL);
            due("tell with a FAULT", tell(x, 0, "x"), -11);
            due("feed", blanks(x), 20);
        });
        sentence(3, "are ROWS of LENGTH 6 at most", () -> {
            told("123456", 1);
            told("654321,1", 1);
            faulty("1234567", 2, 0);
        });
        sentence(3, "a PLACE's BASIS is the BASIS OF these then: how many it has", () -> {
            UnpatternedRows x = with("12", "21", "123", "321");
            due("tell(3, '1')", tell(x, 3, "1"), 1);
            due("tell(0, '')", x.tell(0, 0), 0);
            due("many(0, 8)", x.many(0, 8), 40320);
            due("many(1, 8)", x.many(1, 8), 1);
            due("many(2, 8)", x.many(2, 8), 1430);
            due("many(3, 1)", x.many(3, 1), 0);
        });
        sentence(3, "-10 less the FAULT (nothing else changes)", () -> {
            UnpatternedRows x = with("132");
            due("tell, FAULT 1", tell(x, 0, "12,"), -11);
            due("tell, FAULT 2", tell(x, 0, "12,13"), -12);
            due("tell, FAULT 3", tell(x, 0, times("12,", 24) + "1"), -13);
            due("basis(0, NONE)", x.basis(0, NONE), 1);
            due("basis(0, 0)", x.basis(0, 0), 132);
            due("undo(): the first tell alone can be", x.undo(), 0);
            due("basis(0, NONE)", x.basis(0, NONE), 0);
        });
    }

    private static void tellRefused() {
        sentence(3, "IllegalArgumentException (ahead of all, and nothing changes): no such PLACE, the tape has not so many, n below 0.", () -> {
            UnpatternedRows x = with("132");
            due("tell with a FAULT", tell(x, 1, "12,x"), -11);
            text(x, "21,13");
            for (int place : NO_PLACES) {
                thrown("tell(" + place + ", 5)", () -> x.tell(place, 5), ILLEGAL);
            }
            for (int n : new int[] {Integer.MIN_VALUE, -1, 21, 200, Integer.MAX_VALUE}) {
                thrown("tell(0, " + n + ")", () -> x.tell(0, n), ILLEGAL);
            }
            due("fault() stays", x.fault(), 3);
            due("basis(0, 0) stays", x.basis(0, 0), 132);
            due("feed: the tape stays", blanks(x), 40);
            due("tell(0, 2) of what stayed", x.tell(0, 2), 1);
            due("basis(0, 0)", x.basis(0, 0), 21);
            due("undo()", x.undo(), 1);
        });
        sentence(3, "the tape has not so many", () -> {
            UnpatternedRows x = new UnpatternedRows();
            thrown("tell(0, 1) of a new object", () -> x.tell(0, 1), ILLEGAL);
            due("tell(0, 0)", x.tell(0, 0), 0);
            blanks(x);
            thrown("tell(0, 21)", () -> x.tell(0, 21), ILLEGAL);
            due("tell(0, 20)", x.tell(0, 20), 0);
        });
    }

    private static void under() {
        sentence(4, "The tape's first n bytes (it is empty then, whatever comes of it)", () -> {
            UnpatternedRows x = new UnpatternedRows();
            text(x, "1x");
            due("under(0, 1) of '1x'", x.under(0, 1), 2);
            due("feed", blanks(x), 20);
            due("under(0, 0)", x.under(0, 0), 1);
            due("under: too much", under(x, 0, ALL_OF_LENGTH_4), -2);
            due("feed", blanks(x), 20);
            due("under(0, 20)", x.under(0, 20), 1);
            due("under with a FAULT", under(x, 0, "12."), -11);
            due("feed", blanks(x), 20);
        });
        sentence(4, "are ROWS of LENGTH 5 at most", () -> {
            UnpatternedRows x = new UnpatternedRows();
            due("under(0, '54321')", under(x, 0, "54321"), 2);
            due("basis(0, 0)", x.basis(0, 0), 12);
            due("basis(0, 1): of LENGTH 6", x.basis(0, 1), 654321);
            due("many(0, 5)", x.many(0, 5), 1);
            due("many(0, 6)", x.many(0, 6), 0);
            due("under(0, '654321')", under(x, 0, "654321"), -12);
            due("under(0, '1,123456')", under(x, 0, "1,123456"), -12);
            due("fault()", x.fault(), 2);
        });
        sentence(4, "a PLACE has the CLASS of that of LENGTH 0 and all PERMUTATIONS that are IN some of these", () -> {
            UnpatternedRows x = new UnpatternedRows();
            due("under(0, '')", x.under(0, 0), 1);
            due("basis(0, 0)", x.basis(0, 0), 1);
            due("many(0, 0)", x.many(0, 0), 1);
            due("many(0, 1)", x.many(0, 1), 0);
            due("rank(0, 0)", x.rank(0, 0), 0);
            due("under(0, '1')", under(x, 0, "1"), 2);
            due("basis(0, 0)", x.basis(0, 0), 12);
            due("basis(0, 1)", x.basis(0, 1), 21);
            due("under(0, '2413')", under(x, 0, "2413"), 5);
            due("rank(0, 2413)", x.rank(0, 2413), 0);
            due("many(0, 4)", x.many(0, 4), 1);
            due("many(0, 3)", x.many(0, 3), 4);
            due("rank(0, 123)", x.rank(0, 123), NONE);
            due("rank(0, 321)", x.rank(0, 321), NONE);
        });
        sentence(4, "A BASIS of more than 24 is TOO MUCH.", () -> {
            UnpatternedRows x = new UnpatternedRows();
            due("all below LENGTH 4: all of LENGTH 4", under(x, 0, ALL_OF_LENGTH_3), 24);
            due("basis(0, 23)", x.basis(0, 23), 4321);
            due("all of LENGTH 4 but one, and 12345", under(x, 0, ALL_OF_LENGTH_3 + ",1234"), 24);
            due("24 of several LENGTHS", under(x, 0, "32415,53421,132,321"), 24);
            due("25 of several LENGTHS", under(x, 0, "123,1342,54231,45213"), -2);
            due("120 of LENGTH 5", under(x, 0, ALL_OF_LENGTH_4), -2);
            due("basis(0, NONE)", x.basis(0, NONE), 24);
        });
    }

    private static void underRefused() {
        sentence(4, "-2: TOO MUCH, -10 less the FAULT (these change nothing else)", () -> {
            UnpatternedRows x = with("132");
            due("under: too much", under(x, 0, ALL_OF_LENGTH_4), -2);
            due("fault()", x.fault(), NONE);
            due("FAULT 1", under(x, 0, "12;"), -11);
            due("FAULT 2", under(x, 0, "12, 0"), -12);
            due("fault()", x.fault(), 4);
            due("FAULT 3", under(x, 0, times("1,", 24) + "1"), -13);
            due("fault()", x.fault(), 48);
            due("basis(0, NONE)", x.basis(0, NONE), 1);
            due("basis(0, 0)", x.basis(0, 0), 132);
            due("undo()", x.undo(), 0);
            due("basis(0, NONE)", x.basis(0, NONE), 0);
        });
        sentence(4, "IllegalArgumentException as for tell().", () -> {
            UnpatternedRows x = with("132");
            due("under with a FAULT", under(x, 0, "12,x"), -11);
            text(x, "12");
            for (int place : NO_PLACES) {
                thrown("under(" + place + ", 2)", () -> x.under(place, 2), ILLEGAL);
            }
            for (int n : new int[] {Integer.MIN_VALUE, -1, 21, Integer.MAX_VALUE}) {
                thrown("under(0, " + n + ")", () -> x.under(0, n), ILLEGAL);
            }
            due("fault() stays", x.fault(), 3);
            due("basis(0, 0) stays", x.basis(0, 0), 132);
            due("under(0, 2): the tape stays", x.under(0, 2), 2);
        });
    }

    private static void made(String text, int due) {
        UnpatternedRows x = new UnpatternedRows();
        due("inflate('" + text + "')", inflate(x, text), due);
        due("fault() behind '" + text + "'", x.fault(), NONE);
    }

    private static void unmade(String text, int fault, int place) {
        UnpatternedRows x = new UnpatternedRows();
        due("inflate('" + text + "')", inflate(x, text), -10 - fault);
        due("fault() behind '" + text + "'", x.fault(), place);
    }

    private static void inflated() {
        sentence(5, "INFLATED: ROW '[' ROW (',' ROW)* ']'", () -> {
            made("\n21\n[\n1\n,\n21\n]\n", 321);
            unmade("12 [1,1] [1,1]", 1, 9);
            unmade("12,21[1,1]", 1, 2);
            unmade("12]1,1[", 1, 2);
        });
        sentence(5, "(as many ROWS in the brackets as the first one is long)", () -> {
            made("1[1]", 1);
            made("12345678[1,1,1,1,1,1,1,1]", 12345678);
            unmade("12[1]", 1, 4);
            unmade("12[1,1,1]", 3, 7);
            unmade("12[]", 1, 3);
            unmade("12", 1, 2);
        });
        sentence(5, "each number of the first ROW is put by numbers side by side that stand to one another as the ROW of its place, "
                + "and to others as the numbers of the first ROW do", () -> {
            made("21[12,1]", 231);
            made("12[12,1]", 123);
            made("2413[1,1,21,12]", 362145);
            made(" 132 [ 21 , 1 , 12 ] ", 21534);
        });
        sentence(5, "(the first ROW and those in brackets of LENGTH 8 at most)", () -> {
            made("1[12345678]", 12345678);
            made("87654321[1,1,1,1,1,1,1,1]", 87654321);
            unmade("1[123456789]", 2, 2);
            unmade("123456789[1]", 2, 0);
            unmade("9[1]", 2, 0);
        });
        sentence(5, "-2: it is longer than 8", () -> {
            made("12[1234,1234]", 12345678);
            made("12[1234,12345]", -2);
            made("12345678[1,1,1,1,1,1,1,12]", -2);
            made("12345678[12345678,12345678,12345678,12345678,12345678,12345678,12345678,12345678]", -2);
            unmade("12[12345678,12345678", 1, 20);
        });
    }

    private static void faultsOfInflated() {
        sentence(5, "1 it can't stand there", () -> {
            unmade("[1]", 1, 0);
            unmade("1(1)", 1, 1);
            unmade("1[1]1", 1, 4);
            unmade("1[1],", 1, 4);
            unmade("12[1 1]", 1, 5);
            unmade("12[1,]", 1, 5);
            unmade("12[,1]", 1, 3);
            unmade("one[1]", 1, 0);
        });
        sentence(5, "(the end, where the text can't end: its length; a WORD that isn't told, too)", () -> {
            unmade("", 1, 0);
            unmade("  ", 1, 2);
            unmade("1[", 1, 2);
            unmade("1[1", 1, 3);
            unmade("12[1, ", 1, 6);
            unmade("1[x]", 1, 2);
        });
        sentence(5, "2 a NUMBER that isn't as told (of a ROW: that is no PERMUTATION, or longer than its call says", () -> {
            unmade("13[1,1]", 2, 0);
            unmade("0[1]", 2, 0);
            unmade("12[1,0]", 2, 5);
            unmade("12[1,22]", 2, 5);
            unmade("1[1234567890]", 2, 2);
        });
        sentence(5, "a ROW in brackets for which the first one has no number more", () -> {
            unmade("1[1,1]", 3, 4);
            unmade("12[1,1, 1]", 3, 8);
            unmade("12345678[1,1,1,1,1,1,1,1,1]", 3, 25);
            unmade("1[1,0]", 2, 4);
            unmade("1[1,]", 1, 4);
            unmade("1[12345678,1", 3, 11);
        });
    }

    private static void inflateRefused() {
        sentence(5, "-10 less the FAULT", () -> {
            UnpatternedRows x = with("132");
            due("FAULT 1", inflate(x, "12[1,1"), -11);
            due("FAULT 2", inflate(x, "12[1,3]"), -12);
            due("FAULT 3", inflate(x, "12[1,1,1]"), -13);
            due("basis(0, 0)", x.basis(0, 0), 132);
            due("undo()", x.undo(), 0);
        });
        sentence(5, "The tape's first n bytes (it is empty then, whatever comes of it)", () -> {
            UnpatternedRows x = new UnpatternedRows();
            text(x, "1[1]1");
            due("inflate(4) of '1[1]1'", x.inflate(4), 1);
            due("feed", blanks(x), 20);
            due("inflate(20) of blanks", x.inflate(20), -11);
            due("feed", blanks(x), 20);
            due("inflate(0)", x.inflate(0), -11);
            due("fault()", x.fault(), 0);
            due("inflate: longer than 8", inflate(x, "12[12345678,1]"), -2);
            due("feed", blanks(x), 20);
        });
        sentence(5, "IllegalArgumentException: the tape has not so many, n below 0 (nothing changes)", () -> {
            UnpatternedRows x = new UnpatternedRows();
            due("inflate with a FAULT", inflate(x, "12[1;"), -11);
            text(x, "21[1,1]");
            for (int n : new int[] {Integer.MIN_VALUE, -1, 21, 201, Integer.MAX_VALUE}) {
                thrown("inflate(" + n + ")", () -> x.inflate(n), ILLEGAL);
            }
            due("fault() stays", x.fault(), 4);
            due("inflate(7): the tape stays", x.inflate(7), 21);
            thrown("inflate(1) of the empty tape", () -> x.inflate(1), ILLEGAL);
        });
    }

    private static void fault() {
        sentence(6, "The place of the latest FAULT of tell(), under(), inflate(), ask()", () -> {
            UnpatternedRows x = new UnpatternedRows();
            tell(x, 0, "1,x");
            due("fault() of tell", x.fault(), 2);
            under(x, 0, "12,13");
            due("fault() of under", x.fault(), 3);
            inflate(x, "1[1],");
            due("fault() of inflate", x.fault(), 4);
            ask(x, 0, 0, "many 1=1000");
            due("fault() of ask", x.fault(), 7);
            tell(x, 0, times(" ", 199) + "x");
            due("fault() at the last byte", x.fault(), 199);
            tell(x, 0, "1," + times(" ", 198));
            due("fault() at the end", x.fault(), 200);
        });
        sentence(6, "(the latest of these that was no exception)", () -> {
            UnpatternedRows x = new UnpatternedRows();
            tell(x, 0, "1,2");
            thrown("tell(9, 0)", () -> x.tell(9, 0), ILLEGAL);
            thrown("under(0, 1)", () -> x.under(0, 1), ILLEGAL);
            thrown("inflate(-1)", () -> x.inflate(-1), ILLEGAL);
            thrown("ask(0, 9, 0)", () -> x.ask(0, 9, 0), ILLEGAL);
            due("fault()", x.fault(), 2);
            due("fault() again", x.fault(), 2);
        });
        sentence(6, "NONE: it had none, or there was none", () -> {
            UnpatternedRows x = new UnpatternedRows();
            due("fault() of a new object", x.fault(), NONE);
            thrown("tell(0, 1)", () -> x.tell(0, 1), ILLEGAL);
            due("fault()", x.fault(), NONE);
            String[] calls = {"tell", "under", "inflate", "ask", "under: too much", "inflate: too long"};
            for (int call = 0; call < calls.length; call++) {
                tell(x, 0, "x");
                due("fault()", x.fault(), 0);
                without(x, call);
                due("fault() behind " + calls[call], x.fault(), NONE);
            }
        });
    }

    /** Calls that have no FAULT. */
    private static void without(UnpatternedRows x, int call) {
        switch (call) {
            case 0 -> due("tell", tell(x, 0, "1"), 1);
            case 1 -> due("under", under(x, 0, "1"), 2);
            case 2 -> due("inflate", inflate(x, "1[1]"), 1);
            case 3 -> due("ask", ask(x, 0, 0, "total 7"), 7);
            case 4 -> due("under: too much", under(x, 0, ALL_OF_LENGTH_4), -2);
            default -> due("inflate: too long", inflate(x, "12[12345678,1]"), -2);
        }
    }
}
