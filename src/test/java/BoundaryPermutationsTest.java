/** The sentences that name boundary cases of single permutations: occurrences, what they are made of; promises 13, 14, 18, 19. */
public final class BoundaryPermutationsTest extends Sentences {
    private static final UnpatternedRows X = new UnpatternedRows();
    private static final int[] FAR = {Integer.MIN_VALUE, -1, 10, Integer.MAX_VALUE};

    public static void main(String[] args) {
        occurrences();
        occurrence();
        ofLengths();
        ofDivided();
        ofTurned();
        ofRefused();
        part();
        end();
    }

    private static void occurrences() {
        sentence(13, "(that of LENGTH 0 is in all, at no places, once)", () -> {
            due("occurrences(0, 0)", X.occurrences(0, 0), 1);
            due("occurrences(0, 1)", X.occurrences(0, 1), 1);
            due("occurrences(0, 87654321)", X.occurrences(0, 87654321), 1);
            due("occurrences(1, 0)", X.occurrences(1, 0), 0);
        });
        sentence(13, "How many OCCURRENCES of one PERMUTATION there are in another one.", () -> {
            due("occurrences(1, 12345678)", X.occurrences(1, 12345678), 8);
            due("occurrences(12345678, 12345678)", X.occurrences(12345678, 12345678), 1);
            due("occurrences(4321, 87654321)", X.occurrences(4321, 87654321), 70);
            due("occurrences(87654321, 12345678)", X.occurrences(87654321, 12345678), 0);
            due("occurrences(12345678, 1234567): longer", X.occurrences(12345678, 1234567), 0);
            due("occurrences(21, 1): longer", X.occurrences(21, 1), 0);
        });
        sentence(13, "k places, rising, so that the numbers there are greater and less than each other just as those of the former are along it", () -> {
            due("occurrences(12, 21)", X.occurrences(12, 21), 0);
            due("occurrences(132, 1432)", X.occurrences(132, 1432), 3);
            due("occurrences(231, 1432)", X.occurrences(231, 1432), 0);
        });
        sentence(13, "throws IllegalArgumentException", () -> {
            for (int wrong : NO_PERMUTATIONS) {
                thrown("occurrences(" + wrong + ", 12)", () -> X.occurrences(wrong, 12), ILLEGAL);
                thrown("occurrences(12, " + wrong + ")", () -> X.occurrences(12, wrong), ILLEGAL);
                thrown("occurrences(0, " + wrong + ")", () -> X.occurrences(0, wrong), ILLEGAL);
            }
        });
    }

    private static void occurrence() {
        sentence(14, "The i-th place (0 on; places from 1 on) of the first OCCURRENCE", () -> {
            due("occurrence(1, 1, 0)", X.occurrence(1, 1, 0), 1);
            for (int i = 0; i < 8; i++) {
                due("occurrence(12345678, 12345678, " + i + ")", X.occurrence(12345678, 12345678, i), i + 1);
            }
            due("occurrence(21, 12345687, 0)", X.occurrence(21, 12345687, 0), 7);
            due("occurrence(21, 12345687, 1)", X.occurrence(21, 12345687, 1), 8);
        });
        sentence(14, "(its places compared from the first one on)", () -> {
            due("occurrence(21, 2431, 0): 1, 4 is ahead of 2, 3", X.occurrence(21, 2431, 0), 1);
            due("occurrence(21, 2431, 1)", X.occurrence(21, 2431, 1), 4);
            due("occurrence(123, 14523, 1)", X.occurrence(123, 14523, 1), 2);
            due("occurrence(123, 14523, 2)", X.occurrence(123, 14523, 2), 3);
        });
        sentence(14, "NONE: there is no OCCURRENCE, no such i.", () -> {
            due("occurrence(21, 12, 0)", X.occurrence(21, 12, 0), NONE);
            due("occurrence(12, 1, 0)", X.occurrence(12, 1, 0), NONE);
            due("occurrence(1, 0, 0)", X.occurrence(1, 0, 0), NONE);
            due("occurrence(12, 123, 2)", X.occurrence(12, 123, 2), NONE);
            due("occurrence(12345678, 12345678, 8)", X.occurrence(12345678, 12345678, 8), NONE);
            for (int i : FAR) {
                due("occurrence(12, 123, " + i + ")", X.occurrence(12, 123, i), NONE);
                due("occurrence(0, 123, " + i + ")", X.occurrence(0, 123, i), NONE);
            }
        });
        sentence(14, "(that of LENGTH 0 is in all, at no places, once)", () -> {
            due("occurrence(0, 0, 0)", X.occurrence(0, 0, 0), NONE);
            due("occurrence(0, 21, 0)", X.occurrence(0, 21, 0), NONE);
        });
        sentence(14, "throws IllegalArgumentException", () -> {
            for (int wrong : NO_PERMUTATIONS) {
                thrown("occurrence(" + wrong + ", 12, 0)", () -> X.occurrence(wrong, 12, 0), ILLEGAL);
                thrown("occurrence(12, " + wrong + ", 0)", () -> X.occurrence(12, wrong, 0), ILLEGAL);
                thrown("occurrence(12, " + wrong + ", 9)", () -> X.occurrence(12, wrong, 9), ILLEGAL);
            }
        });
    }

    /** All that of() tells of a permutation. */
    private static void of(int permutation, int... due) {
        for (int what = 0; what <= 9; what++) {
            due("of(" + permutation + ", " + what + ")", X.of(permutation, what), due[what]);
        }
    }

    private static void ofLengths() {
        sentence(18, "Of LENGTH 0 and 1: none, one.", () -> {
            of(0, 0, 0, 0, 0, 0, 0, 0, 0, 0, 0);
            of(1, 1, 0, 0, 1, 1, 1, 1, 0, 0, 1);
        });
        sentence(18, "PARTS of a PERMUTATION of LENGTH 2 or more", () -> {
            of(12, 2, 1, 0, 2, 12, 12, 21, 0, 0, 2);
            of(21, 2, 1, 0, 2, 21, 21, 12, 1, 1, 1);
        });
        sentence(18, "0 its LENGTH", () -> {
            for (int[] one : new int[][] {{0, 0}, {1, 1}, {12, 2}, {1234567, 7}, {87654321, 8}}) {
                due("of(" + one[0] + ", 0)", X.of(one[0], 0), one[1]);
            }
        });
        sentence(18, "1 INTERVALS (of two places or more, that of all, too)", () -> {
            of(87654321, 8, 28, 0, 8, 87654321, 87654321, 12345678, 7, 28, 4);
            of(12345678, 8, 28, 0, 8, 12345678, 12345678, 87654321, 0, 0, 8);
            due("of(2413, 1): that of all alone", X.of(2413, 1), 1);
            due("of(24135, 1)", X.of(24135, 1), 2);
            due("of(1, 1)", X.of(1, 1), 0);
            due("of(0, 1)", X.of(0, 1), 0);
        });
        sentence(18, "places side by side whose numbers are side by side, too, as a set", () -> {
            due("of(2143, 1): 21, 43, all", X.of(2143, 1), 3);
            due("of(3142, 1): 3, 2 aren't side by side", X.of(3142, 1), 1);
            due("of(231, 1): 23, all", X.of(231, 1), 2);
        });
    }

    private static void ofDivided() {
        sentence(18, "SIMPLE is a PERMUTATION of LENGTH 4 or more that has no INTERVALS but those of one place and that of all.", () -> {
            for (int not : new int[] {0, 1, 12, 21, 123, 132, 213, 231, 312, 321, 1234, 2143, 3412, 24135, 12345678}) {
                due("of(" + not + ", 2)", X.of(not, 2), 0);
            }
            for (int simple : new int[] {2413, 3142, 24153, 41352, 25314, 246135, 24681357}) {
                due("of(" + simple + ", 2)", X.of(simple, 2), 1);
            }
        });
        sentence(18, "if it is a SUM (it can be cut in two, all numbers of the first less than all of the second): what it is cut into by all such cuts", () -> {
            due("of(21435687, 3)", X.of(21435687, 3), 5);
            due("of(21435687, 4)", X.of(21435687, 4), 12345);
            due("of(13524, 3): 1, 3524", X.of(13524, 3), 2);
            due("of(13524, 4)", X.of(13524, 4), 12);
        });
        sentence(18, "else, if it is a SKEW SUM (likewise, greater): likewise", () -> {
            due("of(78563412, 3)", X.of(78563412, 3), 4);
            due("of(78563412, 4)", X.of(78563412, 4), 4321);
            due("of(24135, 3): a SUM", X.of(24135, 3), 2);
            due("of(52413, 3): a SKEW SUM", X.of(52413, 3), 2);
            due("of(52413, 4)", X.of(52413, 4), 21);
        });
        sentence(18, "else its greatest INTERVALS that aren't all of it (no two have a place in common)", () -> {
            due("of(24153, 3): as many as it is long", X.of(24153, 3), 5);
            due("of(24153, 4): itself", X.of(24153, 4), 24153);
            due("of(34681275, 3): 34, 6, 8, 12, 7, 5", X.of(34681275, 3), 6);
            due("of(34681275, 4)", X.of(34681275, 4), 246153);
            due("of(45872163, 3)", X.of(45872163, 3), 5);
            due("of(45872163, 4)", X.of(45872163, 4), 35142);
            due("of(35678142, 3)", X.of(35678142, 3), 5);
        });
        sentence(18, "SKELETON: how PARTS stand to one another, as a PERMUTATION.", () -> {
            due("of(0, 4)", X.of(0, 4), 0);
            due("of(1, 4)", X.of(1, 4), 1);
            due("of(12345678, 4)", X.of(12345678, 4), 12345678);
            due("of(56781234, 4)", X.of(56781234, 4), 21);
        });
    }

    private static void ofTurned() {
        sentence(18, "5 its INVERSE, 6 it read from behind", () -> {
            due("of(23456781, 5)", X.of(23456781, 5), 81234567);
            due("of(23456781, 6)", X.of(23456781, 6), 18765432);
            due("of(0, 5)", X.of(0, 5), 0);
            due("of(0, 6)", X.of(0, 6), 0);
        });
        sentence(18, "'descents' (places but the last whose number is greater than the next one)", () -> {
            due("of(87654321, 7)", X.of(87654321, 7), 7);
            due("of(12345678, 7)", X.of(12345678, 7), 0);
            due("of(12345687, 7)", X.of(12345687, 7), 1);
        });
        sentence(18, "'inversions' (two places, of which the first has the greater number)", () -> {
            due("of(87654321, 8)", X.of(87654321, 8), 28);
            due("of(12345678, 8)", X.of(12345678, 8), 0);
            due("of(81234567, 8)", X.of(81234567, 8), 7);
        });
        sentence(18, "'cycles' (place to number: of how many cycles it is made)", () -> {
            due("of(23456781, 9)", X.of(23456781, 9), 1);
            due("of(12345678, 9)", X.of(12345678, 9), 8);
            due("of(21436587, 9)", X.of(21436587, 9), 4);
            due("of(0, 9)", X.of(0, 9), 0);
        });
    }

    private static void ofRefused() {
        sentence(18, "NoSuchElementException (behind IllegalArgumentException): another what.", () -> {
            for (int what : FAR) {
                thrown("of(12, " + what + ")", () -> X.of(12, what), NO_SUCH);
                thrown("of(0, " + what + ")", () -> X.of(0, what), NO_SUCH);
                thrown("of(13, " + what + ")", () -> X.of(13, what), ILLEGAL);
            }
        });
        sentence(18, "throws IllegalArgumentException, NoSuchElementException", () -> {
            for (int wrong : NO_PERMUTATIONS) {
                thrown("of(" + wrong + ", 0)", () -> X.of(wrong, 0), ILLEGAL);
                thrown("of(" + wrong + ", 9)", () -> X.of(wrong, 9), ILLEGAL);
            }
        });
    }

    private static void part() {
        sentence(19, "PART i (0 on, along it) of a PERMUTATION, as a PERMUTATION.", () -> {
            due("part(1, 0)", X.part(1, 0), 1);
            due("part(12, 0)", X.part(12, 0), 1);
            due("part(12, 1)", X.part(12, 1), 1);
            due("part(13524, 1)", X.part(13524, 1), 2413);
            due("part(81234567, 1)", X.part(81234567, 1), 1234567);
            due("part(12345678, 7)", X.part(12345678, 7), 1);
            due("part(56784321, 0)", X.part(56784321, 0), 1234);
            due("part(35678142, 1)", X.part(35678142, 1), 1234);
            due("part(24681357, 7)", X.part(24681357, 7), 1);
        });
        sentence(19, "NoSuchElementException (behind IllegalArgumentException): no such one.", () -> {
            thrown("part(0, 0)", () -> X.part(0, 0), NO_SUCH);
            thrown("part(1, 1)", () -> X.part(1, 1), NO_SUCH);
            thrown("part(12, 2)", () -> X.part(12, 2), NO_SUCH);
            thrown("part(12345678, 8)", () -> X.part(12345678, 8), NO_SUCH);
            thrown("part(13524, 2)", () -> X.part(13524, 2), NO_SUCH);
            for (int i : FAR) {
                thrown("part(12, " + i + ")", () -> X.part(12, i), NO_SUCH);
                thrown("part(22, " + i + ")", () -> X.part(22, i), ILLEGAL);
            }
        });
        sentence(19, "throws IllegalArgumentException, NoSuchElementException", () -> {
            for (int wrong : NO_PERMUTATIONS) {
                thrown("part(" + wrong + ", 0)", () -> X.part(wrong, 0), ILLEGAL);
            }
        });
    }
}
