/** Boundary cases of promises 12 to 14: rows of THINGS, and rows of rows. */
final class HangEdges extends Edges {
    /** THINGS that fit the row of that FORM in oneOfEach: a row, one that may hang in it. */
    private static final int[][] FITTING = {{9, 6}, {10, 0}, {10, 1}, {10, 2}, {10, 3}, {11, 1}, {11, 2}, {12, 2},
        {13, 3}, {14, 2}, {14, 4}, {15, 11}, {15, 12}, {16, 14}, {16, 12}, {17, 15}};

    private static boolean fits(int row, int other) {
        for (int[] f : FITTING) {
            if (f[0] == row && f[1] == other) {
                return true;
            }
        }
        return false;
    }

    /** oneOfEach with a THING in places 0 and 2 of each row of THINGS. */
    private static Story hung(String sentence) {
        Story s = oneOfEach(sentence);
        int[] other = {6, 2, 2, 2, 3, 4, 12, 14, 15};
        for (int row = 9; row <= 17; row++) {
            s.does("hang(" + row + ", " + row + ", 0, " + other[row - 9] + ")", 1);
            s.does("hang(" + row + ", " + row + ", 2, " + other[row - 9] + ")", 1);
        }
        return s;
    }

    static Story p12FirstAndLastPlaceAlone() {
        Story s = new Story("Place i of a THING .. becomes another THING");
        s.does("row(10, 10)", 0).does("row(10, 10)", 1).does("row(10, 10)", 2).does("thing(0, 0)", 3);
        s.does("hang(1, 10, 0, 3)", 1).asked("at(1, 10, 0)", 3).asked("at(1, 10, 1)", NONE).asked("at(0, 10, 9)", NONE);
        return s.does("hang(1, 10, 9, 3)", 1).asked("at(1, 10, 9)", 3).asked("at(1, 10, 8)", NONE)
            .asked("at(2, 10, 0)", NONE);
    }

    static Story p12Nothing() {
        Story s = hung("NONE: NOTHING");
        for (int row = 9; row <= 17; row++) {
            s.does("hang(" + row + ", " + row + ", 2, " + NONE + ")", 1);
            s.asked("at(" + row + ", " + row + ", 2)", NONE);
            s.does("hang(" + row + ", " + row + ", 2, " + NONE + ")", 1);
        }
        return s;
    }

    static Story p12NothingInARowTakenForAnother() {
        Story s = hung("NONE: NOTHING");
        for (int kind : new int[] {10, 11, 14}) {
            s.does("hang(12, " + kind + ", 0, 2)", 1).does("hang(12, " + kind + ", 0, " + NONE + ")", 1);
            s.asked("at(12, 12, 0)", NONE);
        }
        return s.asked("count(7)", 0);
    }

    static Story p12UnknownFirst() {
        Story s = hung("UNKNOWN: both");
        for (int t : noThings(19)) {
            s.refused("hang(" + t + ", 10, 0, 0)", UNKNOWN).refused("hang(" + t + ", 10, 0, " + NONE + ")", UNKNOWN);
        }
        return s;
    }

    static Story p12UnknownOther() {
        Story s = hung("UNKNOWN: both");
        for (int t : noThings(19)) {
            if (t != NONE) {
                s.refused("hang(10, 10, 0, " + t + ")", UNKNOWN);
            }
        }
        return s.refused("hang(10, 10, 0, -4)", UNKNOWN).refused("hang(10, 10, 0, -6)", UNKNOWN);
    }

    static Story p12KindTooSmall() {
        Story s = hung("taken for a KIND (9 to 17)");
        s.refused("hang(8, 8, 0, " + NONE + ")", OUTSIDE).refused("hang(9, 8, 0, 6)", OUTSIDE);
        return s.refused("hang(9, -1, 0, 6)", OUTSIDE).refused("hang(9, " + MIN + ", 0, 6)", OUTSIDE);
    }

    static Story p12KindTooLarge() {
        Story s = hung("taken for a KIND (9 to 17)");
        s.refused("hang(17, 18, 0, " + NONE + ")", OUTSIDE).refused("hang(18, 18, 0, 0)", OUTSIDE);
        return s.refused("hang(17, 20, 0, 15)", OUTSIDE).refused("hang(17, " + MAX + ", 0, 15)", OUTSIDE);
    }

    static Story p12FirstOfAnotherKind() {
        Story s = hung("KIND: the first");
        int findings = 0;
        for (int t = 0; t <= 18; t++) {
            for (int kind = 9; kind <= 17; kind++) {
                if (!isOf(t, kind)) {
                    s.found("hang(" + t + ", " + kind + ", 0, " + NONE + ")", KIND);
                    findings++;
                }
            }
        }
        return s.asked("count(4)", findings);
    }

    static Story p12OtherOfAnotherKind() {
        Story s = hung("KIND: .. then the other");
        int findings = 0;
        for (int row = 9; row <= 17; row++) {
            for (int other = 0; other <= 18; other++) {
                if (!fits(row, other)) {
                    s.found("hang(" + row + ", " + row + ", 1, " + other + ")", KIND);
                    findings++;
                }
            }
        }
        return s.asked("count(4)", findings);
    }

    static Story p12WhatFits() {
        Story s = oneOfEach("taken for that of which the KIND is a row");
        for (int[] f : FITTING) {
            s.does("hang(" + f[0] + ", " + f[0] + ", 1, " + f[1] + ")", 1);
            s.asked("at(" + f[0] + ", " + f[0] + ", 1)", f[1]);
        }
        return s;
    }

    static Story p12BothOfAnotherKindAreOneFinding() {
        Story s = hung("KIND: the first, then the other");
        return s.found("hang(10, 11, 0, 0)", KIND).found("hang(18, 9, 0, 18)", KIND).asked("count(4)", 2);
    }

    static Story p12PlaceTooSmall() {
        Story s = hung("hang: PLACE");
        for (int row = 9; row <= 17; row++) {
            String hang = "hang(" + row + ", " + row + ", ";
            s.found(hang + "-1, " + NONE + ")", PLACE).found(hang + MIN + ", " + NONE + ")", PLACE);
        }
        return s.found("hang(10, 10, -1, 1)", PLACE).asked("count(6)", 19);
    }

    static Story p12PlaceTooLarge() {
        Story s = hung("hang: PLACE");
        for (int row = 9; row <= 17; row++) {
            String hang = "hang(" + row + ", " + row + ", ";
            s.found(hang + "3, " + NONE + ")", PLACE).found(hang + MAX + ", " + NONE + ")", PLACE);
        }
        return s.found("hang(10, 10, 3, 1)", PLACE).asked("count(6)", 19);
    }

    static Story p12PlaceInARowOfNoneAndOfTen() {
        Story s = new Story("PLACE: there is no such place");
        s.does("thing(0, 0)", 0).does("row(10, 0)", 1).does("row(10, 10)", 2);
        s.found("hang(1, 10, 0, 0)", PLACE).found("hang(1, 10, 0, " + NONE + ")", PLACE);
        return s.found("hang(2, 10, 10, 0)", PLACE).does("hang(2, 10, 9, 0)", 1);
    }

    static Story p12Store() {
        Story s = hung("STORE: a row refuses what is not of that of which it is a row (by its own FORM)");
        s.found("hang(11, 10, 0, 0)", STORE).found("hang(11, 10, 0, 3)", STORE);
        s.found("hang(12, 10, 0, 0)", STORE).found("hang(12, 10, 0, 1)", STORE).found("hang(12, 10, 0, 3)", STORE);
        s.found("hang(12, 11, 0, 1)", STORE).found("hang(12, 14, 0, 4)", STORE);
        s.found("hang(13, 10, 0, 0)", STORE).found("hang(13, 10, 0, 1)", STORE).found("hang(13, 10, 0, 2)", STORE);
        return s.asked("count(7)", 10).asked("count(4)", 0);
    }

    static Story p12WhatTheRowItselfTakesThoughTakenForAnother() {
        Story s = oneOfEach("STORE: .. (by its own FORM)");
        s.does("hang(11, 10, 0, 1)", 1).does("hang(11, 10, 1, 2)", 1).does("hang(12, 10, 0, 2)", 1);
        return s.does("hang(12, 11, 1, 2)", 1).does("hang(12, 14, 2, 2)", 1).does("hang(13, 10, 0, 3)", 1)
            .asked("at(12, 12, 2)", 2);
    }

    static Story p12UnknownAheadOfOutside() {
        Story s = hung("UNKNOWN .., OUTSIDE ..: the first of these that fits");
        return s.refused("hang(19, 8, 0, 0)", UNKNOWN).refused("hang(10, 18, 0, 19)", UNKNOWN)
            .refused("hang(-1, 18, 0, -1)", UNKNOWN);
    }

    static Story p12UnknownAheadOfFindings() {
        Story s = hung("the first of these that fits, ahead of FINDINGS");
        return s.refused("hang(0, 10, 0, 19)", UNKNOWN).refused("hang(10, 10, 3, 19)", UNKNOWN);
    }

    static Story p12OutsideAheadOfFindings() {
        Story s = hung("the first of these that fits, ahead of FINDINGS");
        return s.refused("hang(0, 8, 0, 0)", OUTSIDE).refused("hang(10, 18, 3, 18)", OUTSIDE);
    }

    static Story p12KindAheadOfPlace() {
        Story s = hung("KIND: the first, then the other; PLACE");
        s.found("hang(10, 11, 3, 1)", KIND).found("hang(11, 11, 3, 0)", KIND).found("hang(11, 11, -1, 18)", KIND);
        return s.asked("count(4)", 3).asked("count(6)", 0);
    }

    static Story p12PlaceAheadOfStore() {
        Story s = hung("PLACE; STORE");
        s.found("hang(12, 11, 3, 1)", PLACE).found("hang(12, 14, -1, 4)", PLACE);
        return s.asked("count(6)", 2).asked("count(7)", 0);
    }

    static Story p12KindAheadOfStore() {
        Story s = hung("KIND: .. the other; PLACE; STORE").found("hang(12, 11, 0, 0)", KIND);
        return s.found("hang(12, 14, 0, 1)", KIND).asked("count(4)", 2).asked("count(7)", 0);
    }

    static Story p13Nothing() {
        Story s = hung("The THING at place i of a THING ..; NONE");
        for (int row = 9; row <= 17; row++) {
            s.asked("at(" + row + ", " + row + ", 1)", NONE);
        }
        return s;
    }

    static Story p13KindTooSmall() {
        Story s = hung("taken for a KIND (9 to 17)").asked("at(9, 9, 0)", 6);
        return s.refused("at(8, 8, 0)", OUTSIDE).refused("at(9, 8, 0)", OUTSIDE).refused("at(9, -1, 0)", OUTSIDE)
            .refused("at(9, " + MIN + ", 0)", OUTSIDE);
    }

    static Story p13KindTooLarge() {
        Story s = hung("taken for a KIND (9 to 17)").asked("at(17, 17, 0)", 15);
        return s.refused("at(18, 18, 0)", OUTSIDE).refused("at(17, 18, 0)", OUTSIDE).refused("at(17, 20, 0)", OUTSIDE)
            .refused("at(17, " + MAX + ", 0)", OUTSIDE);
    }

    static Story p13OfAnotherKind() {
        Story s = hung("at: KIND");
        int findings = 0;
        for (int t = 0; t <= 18; t++) {
            for (int kind = 9; kind <= 17; kind++) {
                if (!isOf(t, kind)) {
                    s.found("at(" + t + ", " + kind + ", 0)", KIND);
                    findings++;
                }
            }
        }
        return s.asked("count(4)", findings);
    }

    static Story p13PlaceTooSmall() {
        Story s = hung("at: PLACE");
        for (int row = 9; row <= 17; row++) {
            s.found("at(" + row + ", " + row + ", -1)", PLACE).found("at(" + row + ", " + row + ", " + MIN + ")", PLACE);
        }
        return s.asked("count(6)", 18);
    }

    static Story p13PlaceTooLarge() {
        Story s = hung("at: PLACE");
        for (int row = 9; row <= 17; row++) {
            s.found("at(" + row + ", " + row + ", 3)", PLACE).found("at(" + row + ", " + row + ", " + MAX + ")", PLACE);
        }
        return s.asked("count(6)", 18);
    }

    static Story p13PlaceInARowOfNoneAndOfTen() {
        Story s = new Story("PLACE: there is no such place").does("row(12, 0)", 0).does("row(12, 10)", 1);
        for (int kind : new int[] {10, 11, 12, 14}) {
            s.found("at(0, " + kind + ", 0)", PLACE).asked("at(1, " + kind + ", 9)", NONE);
            s.found("at(1, " + kind + ", 10)", PLACE);
        }
        return s;
    }

    static Story p13Unknown() {
        Story s = hung("at: UNKNOWN");
        for (int t : noThings(19)) {
            s.refused("at(" + t + ", 9, 0)", UNKNOWN).refused("at(" + t + ", 17, 0)", UNKNOWN);
        }
        return s;
    }

    static Story p13UnknownThenOutsideThenKindThenPlace() {
        Story s = hung("the first of these that fits, ahead of FINDINGS").refused("at(19, 8, 0)", UNKNOWN);
        s.refused("at(-1, 18, -1)", UNKNOWN).refused("at(0, 8, 0)", OUTSIDE).refused("at(18, 18, 9)", OUTSIDE);
        return s.found("at(10, 11, 3)", KIND).found("at(0, 9, -1)", KIND).asked("count(6)", 0);
    }

    /** hung with -7 at place 2 of the SIZES that hang in the CHART, and an ICON in the rows of ICONS and of DATED. */
    private static Story deepOnes(String sentence) {
        return hung(sentence).does("write(6, 6, 2, -7)", 1).does("hang(14, 14, 2, 2)", 1);
    }

    static Story p14FirstAndLastPlace() {
        Story s = deepOnes("Place k of the row that is at place i");
        s.asked("deep(9, 9, 0, 0)", 0).asked("deep(9, 9, 2, 2)", -7);
        s.asked("deep(15, 15, 0, 0)", 2).asked("deep(15, 15, 2, 2)", 2);
        return s.asked("deep(16, 16, 0, 0)", 4).asked("deep(16, 16, 2, 2)", 2);
    }

    static Story p14NothingAtTheLastStep() {
        return deepOnes("of others the THING (NONE)").asked("deep(15, 15, 0, 1)", NONE).asked("deep(16, 16, 2, 1)", NONE);
    }

    static Story p14SmallestAndLargestNumber() {
        Story s = deepOnes("of 9 the number").does("write(6, 6, 0, 32768)", 1).asked("deep(9, 9, 0, 0)", -32768);
        return s.does("write(6, 6, 0, 32767)", 1).asked("deep(9, 9, 2, 0)", 32767);
    }

    static Story p14KindOutside() {
        Story s = deepOnes("taken for a KIND (9, 15, 16)");
        for (int kind = -1; kind <= 21; kind++) {
            if (kind != 9 && kind != 15 && kind != 16) {
                s.refused("deep(9, " + kind + ", 0, 0)", OUTSIDE).refused("deep(17, " + kind + ", 0, 0)", OUTSIDE);
            }
        }
        return s.refused("deep(9, " + MIN + ", 0, 0)", OUTSIDE).refused("deep(9, " + MAX + ", 0, 0)", OUTSIDE);
    }

    static Story p14OfAnotherKind() {
        Story s = deepOnes("deep: KIND");
        for (int t = 0; t <= 18; t++) {
            for (int kind : new int[] {9, 15, 16}) {
                if (t != kind) {
                    s.found("deep(" + t + ", " + kind + ", 0, 0)", KIND);
                }
            }
        }
        return s.asked("count(4)", 54);
    }

    static Story p14FirstPlaceTooSmall() {
        Story s = deepOnes("PLACE, NOTHING, PLACE, step by step");
        for (int row : new int[] {9, 15, 16}) {
            String deep = "deep(" + row + ", " + row + ", ";
            s.found(deep + "-1, 0)", PLACE).found(deep + MIN + ", 0)", PLACE).found(deep + "-1, -1)", PLACE);
        }
        return s.asked("count(6)", 9);
    }

    static Story p14FirstPlaceTooLarge() {
        Story s = deepOnes("PLACE, NOTHING, PLACE, step by step");
        for (int row : new int[] {9, 15, 16}) {
            String deep = "deep(" + row + ", " + row + ", ";
            s.found(deep + "3, 0)", PLACE).found(deep + MAX + ", 0)", PLACE).found(deep + "3, 3)", PLACE);
        }
        return s.asked("count(6)", 9);
    }

    static Story p14FirstPlaceInARowOfNone() {
        Story s = new Story("PLACE, NOTHING, PLACE, step by step");
        s.does("row(9, 0)", 0).does("row(15, 0)", 1).does("row(16, 0)", 2);
        return s.found("deep(0, 9, 0, 0)", PLACE).found("deep(1, 15, 0, 0)", PLACE).found("deep(2, 16, 0, 0)", PLACE);
    }

    static Story p14NothingHangsThere() {
        Story s = deepOnes("PLACE, NOTHING, PLACE, step by step");
        for (int row : new int[] {9, 15, 16}) {
            s.found("deep(" + row + ", " + row + ", 1, 0)", NOTHING);
        }
        return s.asked("count(5)", 3);
    }

    static Story p14NothingAheadOfTheSecondPlace() {
        Story s = deepOnes("PLACE, NOTHING, PLACE, step by step");
        for (int row : new int[] {9, 15, 16}) {
            String deep = "deep(" + row + ", " + row + ", 1, ";
            s.found(deep + "-1)", NOTHING).found(deep + "3)", NOTHING).found(deep + MAX + ")", NOTHING);
        }
        return s.asked("count(5)", 9).asked("count(6)", 0);
    }

    static Story p14SecondPlaceTooSmall() {
        Story s = deepOnes("PLACE, NOTHING, PLACE, step by step");
        for (int row : new int[] {9, 15, 16}) {
            s.found("deep(" + row + ", " + row + ", 0, -1)", PLACE);
            s.found("deep(" + row + ", " + row + ", 0, " + MIN + ")", PLACE);
        }
        return s.asked("count(6)", 6);
    }

    static Story p14SecondPlaceTooLarge() {
        Story s = deepOnes("PLACE, NOTHING, PLACE, step by step");
        for (int row : new int[] {9, 15, 16}) {
            s.found("deep(" + row + ", " + row + ", 0, 3)", PLACE);
            s.found("deep(" + row + ", " + row + ", 0, " + MAX + ")", PLACE);
        }
        return s.asked("count(6)", 6);
    }

    static Story p14SecondPlaceIsOfTheRowThatHangsThere() {
        Story s = new Story("Place k of the row that is at place i").does("row(15, 1)", 0);
        s.does("row(11, 0)", 1).does("row(11, 10)", 2).does("hang(0, 15, 0, 1)", 1).found("deep(0, 15, 0, 0)", PLACE);
        return s.does("hang(0, 15, 0, 2)", 1).asked("deep(0, 15, 0, 9)", NONE).found("deep(0, 15, 0, 10)", PLACE);
    }

    static Story p14Unknown() {
        Story s = deepOnes("deep: UNKNOWN");
        for (int t : noThings(19)) {
            s.refused("deep(" + t + ", 9, 0, 0)", UNKNOWN).refused("deep(" + t + ", 16, 0, 0)", UNKNOWN);
        }
        return s;
    }

    static Story p14UnknownThenOutsideThenKindThenPlace() {
        Story s = deepOnes("the first of these that fits, ahead of FINDINGS").refused("deep(19, 10, 0, 0)", UNKNOWN);
        s.refused("deep(0, 10, 0, 0)", OUTSIDE).refused("deep(17, 17, 3, 3)", OUTSIDE);
        return s.found("deep(15, 16, 3, 3)", KIND).found("deep(17, 15, 1, 0)", KIND).asked("count(6)", 0);
    }
}
