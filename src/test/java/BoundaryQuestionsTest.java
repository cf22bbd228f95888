/** The sentences that name boundary cases of questions; promise 24. */
public final class BoundaryQuestionsTest extends Sentences {
    private static final String[] VALUES = {"length", "first", "last", "descents", "inversions", "fixed", "cycles", "maxima", "peaks", "sites",
        "simple", "parts"};

    public static void main(String[] args) {
        tokens();
        values();
        valuesOfShort();
        sites();
        fromTheLeft();
        grammar();
        faultsOfStanding();
        faultsOfNumbers();
        faultsOfOpen();
        faultsInOrder();
        answers();
        refused();
        end();
    }

    private static void asked(UnpatternedRows x, int place, int length, String question, int due) {
        due("ask(" + place + ", " + length + ", '" + question + "')", ask(x, place, length, question), due);
        due("fault() behind '" + question + "'", x.fault(), NONE);
    }

    /** Of all permutations of LENGTH 3. */
    private static void asked(String question, int due) {
        asked(new UnpatternedRows(), 0, 3, question, due);
    }

    private static void faulty(String question, int fault, int place) {
        UnpatternedRows x = new UnpatternedRows();
        due("ask(0, 3, '" + question + "')", ask(x, 0, 3, question), -1000000000 - fault);
        due("fault() behind '" + question + "'", x.fault(), place);
    }

    private static void tokens() {
        sentence(24, "a WORD is a row of small letters, a NUMBER a row of figures that stand side by side", () -> {
            asked("most1", 1);
            asked("total(length)", 18);
            asked("many first=1or last=3", 3);
            asked("total 2*first", 24);
            faulty("totallength", 1, 0);
            faulty("total lengthlength", 1, 6);
            faulty("Total 1", 1, 0);
            faulty("total Length", 1, 6);
            faulty("total lengtH", 1, 6);
            faulty("total alength", 1, 6);
            faulty("total lengthz", 1, 6);
            faulty("total aength", 1, 6);
            faulty("total lengta", 1, 6);
            faulty("total first`", 1, 11);
            faulty("total first{", 1, 11);
            faulty("total first2", 1, 11);
            faulty("total 2first", 1, 7);
        });
        sentence(24, "any other byte but blanks (32, 10) is one by itself", () -> {
            for (int sign : new int[] {0, 9, 11, 13, 31, 33, 64, 91, 96, 123, 127, 128, 160, 255}) {
                faulty("total 1 " + bytes(sign), 1, 8);
                faulty("total" + bytes(sign) + "1", 1, 5);
            }
            faulty("many 1<=1", 1, 7);
            faulty("many 1==1", 1, 7);
        });
        sentence(24, "blanks stand where one likes, not in WORDS, NUMBERS", () -> {
            asked("\n\n total \n 1 \n + \n 2 \n ", 18);
            faulty("tot al 1", 1, 0);
            faulty("total 1 2", 1, 8);
            faulty("total len gth", 1, 6);
        });
        sentence(24, "TEXTS of at most 200 bytes (the tape's)", () -> {
            asked("total 1" + times("+1", 96) + " ", 6 * 97);
            asked("most " + times("0+", 97) + "1", 1);
            faulty("most " + times("0+", 97) + "+", 1, 199);
            faulty("most " + times("0+", 97) + " ", 1, 200);
            asked("many" + times(" ", 193) + "1=1", 6);
        });
    }

    private static void values() {
        sentence(24, "'first', 'last' (its first, its last number; 0 of LENGTH 0)", () -> {
            UnpatternedRows x = with("", "12");
            asked(x, 0, 0, "total first + 10 * last", 0);
            asked(x, 0, 1, "total first + 10 * last", 11);
            asked(x, 1, 8, "total first + 10 * last", 18);
        });
        sentence(24, "'descents' (places but the last whose number is greater than the next one)", () -> {
            UnpatternedRows x = with("", "12", "21");
            asked(x, 1, 8, "total descents", 7);
            asked(x, 2, 8, "total descents", 0);
            asked(x, 0, 2, "total descents", 1);
        });
        sentence(24, "'inversions' (two places, of which the first has the greater number)", () -> {
            UnpatternedRows x = with("", "12", "21");
            asked(x, 1, 8, "total inversions", 28);
            asked(x, 2, 8, "total inversions", 0);
            asked(x, 0, 8, "total inversions", 14 * 40320);
        });
        sentence(24, "'fixed' (places, from 1 on, that are their number)", () -> {
            UnpatternedRows x = with("", "12", "21");
            asked(x, 2, 8, "total fixed", 8);
            asked(x, 1, 8, "total fixed", 0);
            asked(x, 1, 7, "total fixed", 1);
            asked(x, 0, 8, "many fixed = 0", 14833);
        });
        sentence(24, "'cycles' (place to number: of how many cycles it is made)", () -> {
            UnpatternedRows x = with("", "12", "21");
            asked(x, 2, 8, "total cycles", 8);
            asked(x, 1, 8, "total cycles", 4);
            asked(x, 0, 8, "many cycles = 1", 5040);
        });
        sentence(24, "'maxima' (numbers greater than all ahead of them)", () -> {
            UnpatternedRows x = with("", "12", "21");
            asked(x, 2, 8, "total maxima", 8);
            asked(x, 1, 8, "total maxima", 1);
            asked(x, 0, 8, "many maxima = 1", 5040);
        });
        sentence(24, "'peaks' (numbers greater than both beside them)", () -> {
            UnpatternedRows x = with("", "12");
            asked(x, 0, 2, "total peaks", 0);
            asked(x, 0, 3, "total peaks", 2);
            asked(x, 1, 8, "total peaks", 0);
            asked(x, 0, 8, "most peaks", 3);
        });
    }

    private static void valuesOfShort() {
        sentence(24, "VALUE, of a PERMUTATION: 'length'", () -> {
            UnpatternedRows x = new UnpatternedRows();
            int[] ofNone = {0, 0, 0, 0, 0, 0, 0, 0, 0, 1, 0, 0};
            int[] ofOne = {1, 1, 1, 0, 0, 1, 1, 1, 0, 2, 0, 1};
            for (int at = 0; at < VALUES.length; at++) {
                asked(x, 0, 0, "most " + VALUES[at], ofNone[at]);
                asked(x, 0, 1, "most " + VALUES[at], ofOne[at]);
            }
            asked(x, 0, 8, "least length", 8);
        });
        sentence(24, "'simple' (1 if it is SIMPLE, else 0)", () -> {
            UnpatternedRows x = with("", "2413,3142");
            asked(x, 0, 3, "most simple", 0);
            asked(x, 0, 4, "total simple", 2);
            asked(x, 0, 8, "total simple", 2926);
            asked(x, 1, 8, "total simple", 0);
        });
        sentence(24, "'parts' (how many PARTS, see 4)", () -> {
            UnpatternedRows x = with("", "12");
            asked(x, 0, 2, "least parts", 2);
            asked(x, 0, 4, "many parts = 4", 4);
            asked(x, 1, 8, "total parts", 8);
        });
    }

    private static void sites() {
        sentence(24, "(Of LENGTH 8: none, 'sites' is 0. 'sites' of a PERMUTATION are by the CLASS that is asked.)", () -> {
            UnpatternedRows x = with("", "1", "12", "123");
            asked(x, 0, 8, "most sites", 0);
            asked(x, 2, 8, "most sites", 0);
            asked(x, 0, 7, "least sites", 8);
            asked(x, 1, 0, "most sites", 0);
            asked(x, 2, 7, "total sites", 1);
            asked(x, 3, 7, "total sites", 1430);
        });
    }

    private static void fromTheLeft() {
        sentence(24, "From the left; ints that wrap.", () -> {
            asked("most 10-3-2", 5);
            asked("most 10-3+2", 9);
            asked("most 2+3*4", 14);
            asked("most 2*3+4", 10);
            asked("most 2-3*4-5", -15);
            asked("most 7-(3-(2-1))", 5);
        });
        sentence(24, "ints that wrap", () -> {
            asked("most 999*999*999*999", (int) (999L * 999 * 999 * 999));
            asked("many 999*999*999*3<0", 6);
            asked("many 999*999*999*2>0", 6);
            asked("most 999*999*999*2+999*999*999*2", (int) (4L * 999 * 999 * 999));
            asked("least 0-999*999*999*2-999*999*999*2", (int) (-4L * 999 * 999 * 999));
            asked("many 128*256*256*256=0-128*256*256*256", 6);
            asked("many 128*256*256*256-1>0", 6);
            asked("many 256*256*256*256=0", 6);
        });
    }

    private static void grammar() {
        sentence(24, "QUESTION: 'many' TEST | ('total' | 'most' | 'least') SUM.", () -> {
            asked("many 1=1", 6);
            asked("total 1", 6);
            asked("most 1", 1);
            asked("least 1", 1);
            faulty("many 1", 1, 6);
            faulty("total 1=1", 1, 7);
            faulty("most {1=1}", 1, 5);
            faulty("least not 1=1", 1, 6);
        });
        sentence(24, "TEST: BOTH ('or' BOTH)*. BOTH: FACT ('and' FACT)*.", () -> {
            asked("many first=1 or first=2 and last=1", 3);
            asked("many first=2 and last=1 or first=1", 3);
            asked("many {first=1 or first=2} and last=1", 1);
            asked("many first=1 or first=2 or first=3", 6);
            asked("many first=1 and last=2 and length=3", 1);
        });
        sentence(24, "FACT: 'not' FACT | '{' TEST '}' | SUM ('<' | '=' | '>') SUM.", () -> {
            asked("many not first=1", 4);
            asked("many not not first=1", 2);
            asked("many not first=1 and last=1", 2);
            asked("many not {first=1 and last=2}", 5);
            asked("many {not {first=1}}", 4);
            asked("many first<2", 2);
            asked("many first<1", 0);
            asked("many first>2", 2);
            asked("many first>3", 0);
            faulty("many 1<2<3", 1, 8);
            faulty("many (1=1)", 1, 7);
            faulty("many {1}=1", 1, 7);
        });
        sentence(24, "SUM: PRODUCT (('+' | '-') PRODUCT)*. PRODUCT: PART ('*' PART)*.", () -> {
            asked("most 1+2*3-4", 3);
            asked("most (1+2)*(3-4)", -3);
            asked("most 2*3*4", 24);
            faulty("most +1", 1, 5);
            faulty("most 1-", 1, 7);
            faulty("most 1--1", 1, 7);
            faulty("most *1", 1, 5);
            faulty("most 4/2", 1, 6);
        });
        sentence(24, "PART: NUMBER (0 to 999) | '(' SUM ')' | VALUE.", () -> {
            asked("most 0", 0);
            asked("most 999", 999);
            asked("most 0999", 999);
            asked("most 000000000000000000000", 0);
            asked("most (length)", 3);
            faulty("most 1000", 2, 5);
            faulty("most -1", 1, 5);
            faulty("most ()", 1, 6);
            faulty("most {1}", 1, 5);
        });
    }

    private static void faultsOfStanding() {
        sentence(24, "1 it can't stand there", () -> {
            faulty("length", 1, 0);
            faulty("5", 1, 0);
            faulty("total total 1", 1, 6);
            faulty("many or 1=1", 1, 5);
            faulty("many 1=1 or or 1=1", 1, 12);
            faulty("many 1=1 not 1=1", 1, 9);
            faulty("many 1=1}", 1, 8);
            faulty("total 1)", 1, 7);
            faulty("many {1=1)", 1, 9);
            faulty("total (1}", 1, 8);
            faulty("total 1+*1", 1, 8);
            faulty("total 1 and 1", 1, 8);
            faulty("many {1=1 {", 1, 10);
            faulty("total 1,1", 1, 7);
        });
        sentence(24, "(the end, where the text can't end: its length; a WORD that isn't told, too)", () -> {
            faulty("", 1, 0);
            faulty(" \n", 1, 2);
            faulty("many", 1, 4);
            faulty("many ", 1, 5);
            faulty("many 1", 1, 6);
            faulty("many 1=", 1, 7);
            faulty("many 1=1 or", 1, 11);
            faulty("many 1=1 and \n", 1, 14);
            faulty("many not", 1, 8);
            faulty("many {1=1", 1, 9);
            faulty("total", 1, 5);
            faulty("total 1+", 1, 8);
            faulty("total 1*", 1, 8);
            faulty("total (1", 1, 8);
            faulty("few 1=1", 1, 0);
            faulty("total size", 1, 6);
            faulty("total 1 plus 1", 1, 8);
            faulty("manyy 1=1", 1, 0);
            faulty("man 1=1", 1, 0);
        });
    }

    private static void faultsOfNumbers() {
        sentence(24, "more than 999)", () -> {
            faulty("total 1000", 2, 6);
            faulty("total 01000", 2, 6);
            faulty("total 9999999999", 2, 6);
            faulty("total 4294967296", 2, 6);
            faulty("total 18446744073709551617", 2, 6);
            faulty("most " + times("9", 195), 2, 5);
            faulty("many 999=  1000 and", 2, 11);
            asked("total 999", 5994);
        });
    }

    private static void faultsOfOpen() {
        sentence(24, "the 7th of 'not', '{', '(' that are open at once", () -> {
            asked("most ((((((1))))))", 1);
            faulty("most (((((((1)))))))", 3, 11);
            asked("many {{{{{{1=1}}}}}}", 6);
            faulty("many {{{{{{{1=1}}}}}}}", 3, 11);
            asked("many not not not not not not 1=1", 6);
            faulty("many not not not not not not not 1=1", 3, 29);
            asked("many not{not{not(1)=1}}", 0);
            asked("many {not{not((1))=1}}", 6);
            faulty("many not{not{not{(1)=1}}}", 3, 17);
            faulty("many not{not{not{not 1=1}}}", 3, 17);
            faulty("many not{not{not{{1=1}}}}", 3, 17);
        });
        sentence(24, "open at once", () -> {
            asked("most ((((((1))))))+((((((2))))))*(3)", 7);
            asked("many {{{{{{1=1}}}}}} or {{{{{{1=2}}}}}}", 6);
            asked("most (1)+(1)+(1)+(1)+(1)+(1)+(1)+(1)", 8);
            asked("many {1=1} and {1=1} and {1=1} and {1=1} and {1=1} and {1=1} and {1=1}", 6);
            asked("many (((((1)))))=((((((1))))))", 6);
        });
        sentence(24, "('not' till its FACT ends)", () -> {
            asked("many not not not not not not 1=1 and not not not not not not 1=1", 6);
            asked("many not 1=1 or ((((((1))))))=1", 6);
            asked("many not {1=1} or {{{{{{1=1}}}}}}", 6);
            asked("many not (((((1)))))=1", 0);
            faulty("many not ((((((1))))))=1", 3, 14);
            asked("many not 1=(((((1)))))", 0);
            faulty("many not 1=((((((1))))))", 3, 16);
            faulty("many {{{{{not {1=1}}}}}}", 3, 14);
            asked("many {{{{{not 1=1 or {1=1}}}}}}", 6);
            faulty("many {{{{{{not 1=1}}}}}}", 3, 11);
        });
    }

    private static void faultsInOrder() {
        sentence(24, "at the first TOKEN at which one of these is so it is that (the first one of this list)", () -> {
            faulty("total 1 1000", 1, 8);
            faulty("1000", 1, 0);
            faulty("total ((((((1(", 1, 13);
            faulty("many {{{{{{1{", 1, 12);
            faulty("many {{{{{{1=1 not", 1, 15);
            faulty("many ((((((1 not", 1, 13);
            faulty("total 1000 x", 2, 6);
            faulty("total x 1000", 1, 6);
            faulty("total (((((((1000", 3, 12);
            faulty("total ((((((1000", 2, 12);
        });
        sentence(24, "its place the TOKEN's first byte", () -> {
            faulty("  totals 1", 1, 2);
            faulty("total\n\n  12345", 2, 9);
            faulty("many not not not not not not   not 1=1", 3, 31);
        });
    }

    private static void answers() {
        sentence(24, "for how many the TEST holds", () -> {
            UnpatternedRows x = with("", "1", "123");
            asked(x, 0, 8, "many 1=1", 40320);
            asked(x, 0, 8, "many 1=2", 0);
            asked(x, 0, 0, "many 1=1", 1);
            asked(x, 1, 8, "many 1=1", 0);
            asked(x, 2, 8, "many 1=1", 1430);
        });
        sentence(24, "the SUMS of all together (an int that wraps)", () -> {
            UnpatternedRows x = with("", "1");
            asked(x, 0, 8, "total 999*999", (int) (40320L * 999 * 999));
            asked(x, 0, 8, "total 0-999*999", (int) (-40320L * 999 * 999));
            asked(x, 0, 2, "total 64*256*256*256", Integer.MIN_VALUE);
            asked(x, 0, 3, "total 128*256*256*256", 0);
            asked(x, 1, 8, "total 5", 0);
        });
        sentence(24, "the greatest, the least one (0 without AVOIDERS)", () -> {
            UnpatternedRows x = with("", "1");
            asked(x, 0, 3, "most 0-first", -1);
            asked(x, 0, 3, "least 0-first", -3);
            asked(x, 0, 3, "most 128*256*256*256", Integer.MIN_VALUE);
            asked(x, 0, 3, "least 128*256*256*256-1", Integer.MAX_VALUE);
            asked(x, 0, 8, "most inversions", 28);
            asked(x, 0, 8, "least 5+inversions", 5);
            asked(x, 1, 1, "most 5", 0);
            asked(x, 1, 1, "least 5", 0);
            asked(x, 1, 8, "most 0-5", 0);
            asked(x, 1, 0, "most 0-5", -5);
        });
        sentence(24, "-1000000000 less the FAULT.", () -> {
            UnpatternedRows x = with("132");
            due("FAULT 1", ask(x, 0, 3, "total"), -1000000001);
            due("FAULT 2", ask(x, 0, 3, "total 1000"), -1000000002);
            due("FAULT 3", ask(x, 0, 3, "total (((((((1)))))))"), -1000000003);
            due("a FAULT without AVOIDERS", ask(with("1"), 0, 8, "total"), -1000000001);
            due("basis(0, 0)", x.basis(0, 0), 132);
            due("undo()", x.undo(), 0);
        });
    }

    private static void refused() {
        sentence(24, "The tape's first n bytes (it is empty then, whatever comes of it)", () -> {
            UnpatternedRows x = new UnpatternedRows();
            text(x, "total 12x");
            due("ask(0, 3, 7)", x.ask(0, 3, 7), 6);
            due("feed", x.feed(0, 0, 0, 0, 0), 20);
            due("ask(0, 3, 0)", x.ask(0, 3, 0), -1000000001);
            due("fault()", x.fault(), 0);
            due("feed", x.feed(0, 0, 0, 0, 0), 20);
            due("ask(0, 3, 20) of bytes 0", x.ask(0, 3, 20), -1000000001);
            thrown("ask(0, 3, 1) of the empty tape", () -> x.ask(0, 3, 1), ILLEGAL);
        });
        sentence(24, "a QUESTION of all AVOIDERS of a LENGTH (0 to 8)", () -> {
            UnpatternedRows x = with("123");
            int[] counts = {1, 1, 2, 5, 14, 42, 132, 429, 1430};
            for (int length = 0; length <= 8; length++) {
                asked(x, 0, length, "total 1", counts[length]);
            }
        });
        sentence(24, "IllegalArgumentException (ahead of all, and nothing changes): no such PLACE, LENGTH, the tape has not so many, n below 0.", () -> {
            UnpatternedRows x = new UnpatternedRows();
            tell(x, 0, "132,x");
            text(x, "total 1x");
            for (int place : NO_PLACES) {
                thrown("ask(" + place + ", 3, 8)", () -> x.ask(place, 3, 8), ILLEGAL);
            }
            for (int length : new int[] {Integer.MIN_VALUE, -1, 9, Integer.MAX_VALUE}) {
                thrown("ask(0, " + length + ", 8)", () -> x.ask(0, length, 8), ILLEGAL);
            }
            for (int n : new int[] {Integer.MIN_VALUE, -1, 21, 200, Integer.MAX_VALUE}) {
                thrown("ask(0, 3, " + n + ")", () -> x.ask(0, 3, n), ILLEGAL);
            }
            due("fault() stays", x.fault(), 4);
            due("ask(0, 3, 7): the tape stays", x.ask(0, 3, 7), 6);
        });
    }
}
