/** What the tests of boundary cases have in common: the answers below 0, and stores to begin with. */
abstract class Edges {
    static final int UNKNOWN = -1, OUTSIDE = -2, TURN = -3, FULL = -4, NONE = -5;
    static final int KIND = -31, NOTHING = -32, PLACE = -33, STORE = -34, SIZE = -35;
    static final int MIN = Integer.MIN_VALUE, MAX = Integer.MAX_VALUE;
    static final int OPEN = 0, STUCK = 1, OUT = 2, HOME = 3;

    /** No such THING in a store of n THINGS; NONE is none of them where NOTHING may not be told. */
    static int[] noThings(int n) {
        return new int[] {n, n + 1, -1, NONE, 110, MIN, MAX};
    }

    /** THING n is of FORM n, 0 to 18; FORMS 0 to 4 are of YEAR 100 n + 5, rows have 3 places. */
    static Story oneOfEach(String sentence) {
        Story s = new Story(sentence);
        for (int form = 0; form <= 18; form++) {
            String made = form <= 4 ? "thing(" + form + ", " + (100 * form + 5) + ")" : "row(" + form + ", 3)";
            s.does(form == 18 ? "makeCase()" : made, form);
        }
        return s;
    }

    /** 110 THINGS: CASES 0, 3, .., WORKS 1, 4, .., LABELS of one place 2, 5, .. */
    static Story full(String sentence) {
        Story s = new Story(sentence);
        for (int n = 0; n < 110; n++) {
            s.does(n % 3 == 0 ? "makeCase()" : n % 3 == 1 ? "thing(0, " + n + ")" : "row(5, 1)", n);
        }
        return s;
    }

    /** CASES 0, 1, 2 and 3, a WORK 4, a COIN 5, an ICON 6 and a LABEL 7, of YEARS 10, 20 and 30. */
    static Story fourCases(String sentence) {
        Story s = new Story(sentence);
        for (int n = 0; n < 4; n++) {
            s.does("makeCase()", n);
        }
        return s.does("thing(0, 10)", 4).does("thing(4, 20)", 5).does("thing(2, 30)", 6).does("row(5, 1)", 7);
    }

    static final int[][] KINDS_OF = {
        {0}, {0, 1}, {0, 1, 2, 19}, {0, 3}, {4, 19}, {5}, {6}, {7}, {8}, {9},
        {10}, {10, 11}, {10, 11, 12, 14}, {10, 13}, {14}, {15}, {16}, {17}, {18},
    };

    static boolean isOf(int form, int kind) {
        for (int k : KINDS_OF[form]) {
            if (k == kind) {
                return true;
            }
        }
        return kind == 20;
    }
}
