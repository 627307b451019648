/** Boundary cases of promises 4 and 15 to 19: CASES, and what lies in them. */
final class CaseEdges extends Edges {
    /** 110 CASES, each but the last holds the next. */
    private static Story longestChain(String sentence) {
        Story s = new Story(sentence);
        for (int n = 0; n < 110; n++) {
            s.does("makeCase()", n);
        }
        for (int n = 0; n < 109; n++) {
            s.does("fill(" + n + ", " + (n + 1) + ")", NONE);
        }
        return s;
    }

    /** fourCases, with 2 within 1, and 1 within 0. */
    private static Story nested(String sentence) {
        return fourCases(sentence).does("fill(0, 1)", NONE).does("fill(1, 2)", NONE);
    }

    /** No such THING, or one that is no CASE, in fourCases. */
    private static int[] noCases() {
        return new int[] {4, 5, 6, 7, 8, -1, NONE, 110, MIN, MAX};
    }

    static Story p04Full() {
        Story s = new Story("makeCase: FULL");
        for (int n = 0; n < 110; n++) {
            s.does("makeCase()", n);
        }
        return s.refused("makeCase()", FULL).refused("makeCase()", FULL).asked("count(1)", 110);
    }

    static Story p04FullOfOthers() {
        return full("makeCase: FULL").refused("makeCase()", FULL).asked("count(1)", 37);
    }

    static Story p04HoldsNothingAtFirst() {
        Story s = new Story("hold a THING or NOTHING (at first)").does("makeCase()", 0).does("makeCase()", 1);
        return s.asked("held(0)", NONE).asked("held(1)", NONE).asked("count(2)", 0).asked("is(0, 18)", 1);
    }

    static Story p15WhatItHeld() {
        Story s = fourCases("what it held; NONE").does("fill(0, 4)", NONE).does("fill(0, 5)", 4);
        return s.does("fill(0, 5)", 5).does("fill(0, 1)", 5).does("fill(0, 6)", 1).asked("held(0)", 6);
    }

    static Story p15Nothing() {
        Story s = fourCases("NONE: NOTHING").does("fill(0, 4)", NONE).does("fill(0, " + NONE + ")", 4);
        return s.asked("held(0)", NONE).does("fill(0, " + NONE + ")", NONE).asked("count(2)", 0);
    }

    static Story p15OneThingInTwoCases() {
        Story s = fourCases("A CASE holds a THING (NONE: NOTHING) from now on");
        s.does("fill(0, 4)", NONE).does("fill(1, 4)", NONE).asked("held(0)", 4).asked("held(1)", 4);
        return s.does("fill(0, " + NONE + ")", 4).asked("held(1)", 4);
    }

    static Story p15UnknownCase() {
        Story s = nested("UNKNOWN: both .. no CASE, where one is told as such");
        for (int box : noCases()) {
            s.refused("fill(" + box + ", 5)", UNKNOWN).refused("fill(" + box + ", " + NONE + ")", UNKNOWN);
        }
        return s;
    }

    static Story p15UnknownThing() {
        Story s = nested("UNKNOWN: both");
        for (int t : noThings(8)) {
            if (t != NONE) {
                s.refused("fill(0, " + t + ")", UNKNOWN);
            }
        }
        return s.refused("fill(0, -4)", UNKNOWN).refused("fill(0, -6)", UNKNOWN);
    }

    static Story p15UnknownAheadOfTurn() {
        Story s = nested("UNKNOWN .., TURN ..: the first of these that fits");
        return s.refused("fill(4, 4)", UNKNOWN).refused("fill(8, 8)", UNKNOWN).refused("fill(-1, -1)", UNKNOWN);
    }

    static Story p15ACaseInItself() {
        Story s = nested("TURN: the THING is that CASE");
        for (int box = 0; box < 4; box++) {
            s.refused("fill(" + box + ", " + box + ")", TURN);
        }
        return s;
    }

    static Story p15ACaseInOneThatItHolds() {
        return nested("or a CASE within which it is").refused("fill(1, 0)", TURN).refused("fill(2, 1)", TURN);
    }

    static Story p15ACaseInOneDeepWithinIt() {
        Story s = nested("and within all within which that is").refused("fill(2, 0)", TURN);
        return s.does("fill(2, 3)", NONE).refused("fill(3, 0)", TURN).refused("fill(3, 1)", TURN)
            .refused("fill(3, 2)", TURN);
    }

    static Story p15ACaseInTheLastOf110() {
        Story s = longestChain("and within all within which that is").refused("fill(109, 0)", TURN);
        return s.refused("fill(109, 109)", TURN).refused("fill(109, 108)", TURN).refused("fill(1, 0)", TURN);
    }

    static Story p15ACaseInOneThatIsBesideIt() {
        Story s = nested("never one within which they are").does("fill(3, 2)", NONE);
        s.does("fill(3, 1)", 2).does("fill(3, 0)", 1).refused("fill(2, 3)", TURN);
        return s.does("fill(0, 2)", 1).does("fill(3, 1)", 0).does("fill(0, " + NONE + ")", 2).refused("fill(2, 1)", TURN);
    }

    static Story p15NoLongerWithin() {
        Story s = nested("TURN: .. a CASE within which it is").refused("fill(2, 0)", TURN);
        return s.does("fill(1, 4)", 2).does("fill(2, 0)", NONE).asked("depth(2)", 3).refused("fill(1, 2)", TURN);
    }

    static Story p15WithinTwo() {
        Story s = fourCases("a CASE is WITHIN that which holds it").does("fill(0, 2)", NONE).does("fill(1, 2)", NONE);
        return s.refused("fill(2, 0)", TURN).refused("fill(2, 1)", TURN).does("fill(0, " + NONE + ")", 2)
            .refused("fill(2, 1)", TURN).does("fill(2, 0)", NONE);
    }

    static Story p15ARowIsNoCaseThatHolds() {
        Story s = new Story("never one within which they are").does("makeCase()", 0).does("row(10, 1)", 1);
        return s.does("thing(0, 0)", 2).does("hang(1, 10, 0, 2)", 1).does("fill(0, 1)", NONE).asked("depth(0)", 1);
    }

    static Story p16Nothing() {
        return nested("What a CASE holds; NONE").asked("held(2)", NONE).asked("held(3)", NONE).asked("held(0)", 1);
    }

    static Story p16Unknown() {
        Story s = nested("no CASE, where one is told as such");
        for (int box : noCases()) {
            s.refused("held(" + box + ")", UNKNOWN);
        }
        return s;
    }

    static Story p17NothingIsOfNoKind() {
        Story s = nested("NOTHING is of no KIND");
        for (int kind = 0; kind <= 20; kind++) {
            s.asked("innermost(0, " + kind + ")", 0).asked("innermost(2, " + kind + ")", 0);
        }
        return s;
    }

    static Story p17WhatLiesInTheLastOf109() {
        Story s = new Story("else the INNERMOST of that").does("thing(2, 30)", 0);
        for (int n = 1; n <= 109; n++) {
            s.does("makeCase()", n).does("fill(" + n + ", " + (n - 1) + ")", NONE);
        }
        for (int kind = 0; kind <= 20; kind++) {
            s.asked("innermost(109, " + kind + ")", isOf(2, kind) ? 1 : 0);
        }
        return s.asked("innermost(1, 2)", 1).asked("inside(109)", 162).asked("depth(109)", 109);
    }

    static Story p17KindTooSmall() {
        Story s = nested("of a KIND (0 .. 20)").does("fill(2, 4)", NONE).asked("innermost(0, 0)", 1);
        return s.refused("innermost(0, -1)", OUTSIDE).refused("innermost(3, -1)", OUTSIDE)
            .refused("innermost(0, " + MIN + ")", OUTSIDE);
    }

    static Story p17KindTooLarge() {
        Story s = nested("of a KIND (0 .. 20)").does("fill(2, 4)", NONE).asked("innermost(0, 20)", 1);
        return s.refused("innermost(0, 21)", OUTSIDE).refused("innermost(3, 21)", OUTSIDE)
            .refused("innermost(0, " + MAX + ")", OUTSIDE);
    }

    static Story p17Unknown() {
        Story s = nested("no CASE, where one is told as such");
        for (int box : noCases()) {
            s.refused("innermost(" + box + ", 0)", UNKNOWN).refused("innermost(" + box + ", 20)", UNKNOWN);
        }
        return s;
    }

    static Story p17UnknownAheadOfOutside() {
        Story s = nested("UNKNOWN .., OUTSIDE ..: the first of these that fits");
        return s.refused("innermost(4, 21)", UNKNOWN).refused("innermost(8, -1)", UNKNOWN);
    }

    static Story p18OfAnEmptyCase() {
        return fourCases("1, if it holds no CASE").asked("depth(0)", 1);
    }

    static Story p18OfACaseThatHoldsNoCase() {
        Story s = fourCases("1, if it holds no CASE").does("fill(0, 4)", NONE).asked("depth(0)", 1);
        return s.does("fill(1, 7)", NONE).asked("depth(1)", 1);
    }

    static Story p18OfNestedCases() {
        Story s = nested("else 1 and that of what it holds");
        return s.asked("depth(0)", 3).asked("depth(1)", 2).asked("depth(2)", 1).does("fill(2, 4)", NONE)
            .asked("depth(0)", 3);
    }

    static Story p18Of110() {
        Story s = longestChain("else 1 and that of what it holds");
        return s.asked("depth(0)", 110).asked("depth(1)", 109).asked("depth(109)", 1);
    }

    static Story p18Unknown() {
        Story s = nested("no CASE, where one is told as such");
        for (int box : noCases()) {
            s.refused("depth(" + box + ")", UNKNOWN);
        }
        return s;
    }

    static Story p19Nothing() {
        Story s = nested("inside: NOTHING");
        for (int box = 0; box < 4; box++) {
            s.found("inside(" + box + ")", NOTHING);
        }
        return s.asked("count(5)", 4).asked("count(4)", 0);
    }

    static Story p19NothingInTheLastOf110() {
        return longestChain("inside: NOTHING").found("inside(0)", NOTHING).found("inside(109)", NOTHING);
    }

    static Story p19OfAnotherKind() {
        Story s = oneOfEach("inside: KIND").does("makeCase()", 19);
        int[] worth = {6, 212, 512, 306};
        int before = NONE;
        for (int t = 0; t <= 18; t++) {
            s.does("fill(19, " + t + ")", before);
            if (t == 18) {
                s.found("inside(19)", NOTHING);
            } else if (t <= 3) {
                s.asked("inside(19)", worth[t]);
            } else {
                s.found("inside(19)", KIND);
            }
            before = t;
        }
        return s.asked("count(4)", 14).asked("count(5)", 1);
    }

    static Story p19DeepWithin() {
        Story s = nested("WORTH of a CASE's INNERMOST, taken for a WORK").does("fill(2, 6)", NONE);
        s.asked("inside(0)", 162).asked("inside(2)", 162).does("fill(2, 5)", 6);
        return s.found("inside(0)", KIND).found("inside(2)", KIND).asked("count(4)", 2);
    }

    static Story p19Unknown() {
        Story s = nested("no CASE, where one is told as such");
        for (int box : noCases()) {
            s.refused("inside(" + box + ")", UNKNOWN);
        }
        return s;
    }
}
