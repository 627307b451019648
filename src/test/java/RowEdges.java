/** Boundary cases of promises 3 and 9 to 11: rows, their sizes, and what is written in them. */
final class RowEdges extends Edges {
    private static final int[] PLAIN = {5, 6, 7, 8};

    static Story p03FormTooSmall() {
        Story s = new Story("A row, FORM 5 to 17").does("row(5, 2)", 0).asked("is(0, 5)", 1);
        return s.refused("row(4, 2)", OUTSIDE).refused("row(0, 2)", OUTSIDE).refused("row(-1, 2)", OUTSIDE)
            .refused("row(" + MIN + ", 2)", OUTSIDE);
    }

    static Story p03FormTooLarge() {
        Story s = new Story("A row, FORM 5 to 17").does("row(17, 2)", 0).asked("is(0, 17)", 1);
        return s.refused("row(18, 2)", OUTSIDE).refused("row(19, 2)", OUTSIDE).refused("row(20, 2)", OUTSIDE)
            .refused("row(" + MAX + ", 2)", OUTSIDE);
    }

    static Story p03TooManyPlaces() {
        Story s = new Story("of n places (10 at most");
        for (int form = 5; form <= 17; form++) {
            s.refused("row(" + form + ", 11)", OUTSIDE).refused("row(" + form + ", " + MAX + ")", OUTSIDE);
            s.does("row(" + form + ", 10)", form - 5).asked("size(" + (form - 5) + ", " + form + ")", 10);
        }
        return s;
    }

    static Story p03NoPlaces() {
        Story s = new Story("of n places");
        for (int form = 5; form <= 17; form++) {
            int t = form - 5;
            s.does("row(" + form + ", 0)", t).asked("size(" + t + ", " + form + ")", 0);
            if (form <= 8) {
                s.asked("read(" + t + ", " + form + ", 0)", Check.INDEX);
            } else {
                s.found("at(" + t + ", " + form + ", 0)", PLACE);
            }
        }
        return s;
    }

    static Story p03SizeBelow0() {
        Story s = new Story("SIZE: a size below 0").does("row(5, 0)", 0);
        for (int form = 5; form <= 17; form++) {
            s.found("row(" + form + ", -1)", SIZE).found("row(" + form + ", " + MIN + ")", SIZE);
        }
        return s.asked("count(8)", 26).asked("count(0)", 1);
    }

    static Story p03WhatIsInItAtFirst() {
        Story s = new Story("0, untrue or NOTHING in each");
        for (int form = 5; form <= 17; form++) {
            int t = form - 5;
            s.does("row(" + form + ", 10)", t);
            for (int i = 0; i < 10; i++) {
                String place = "(" + t + ", " + form + ", " + i + ")";
                s.asked(form <= 8 ? "read" + place : "at" + place, form <= 8 ? 0 : NONE);
            }
        }
        return s;
    }

    static Story p03Full() {
        Story s = new Story("row: FULL");
        for (int n = 0; n < 110; n++) {
            s.does("row(" + (5 + n % 13) + ", " + n % 11 + ")", n);
        }
        for (int form = 5; form <= 17; form++) {
            s.refused("row(" + form + ", 10)", FULL).refused("row(" + form + ", 0)", FULL);
        }
        return s.asked("count(0)", 110).asked("size(109, 10)", 10);
    }

    static Story p03OutsideAheadOfFull() {
        Story s = full("OUTSIDE .., FULL: the first of these that fits");
        return s.refused("row(4, 0)", OUTSIDE).refused("row(18, 0)", OUTSIDE).refused("row(5, 11)", OUTSIDE);
    }

    static Story p03OutsideAheadOfSize() {
        Story s = new Story("the first of these that fits, ahead of FINDINGS");
        return s.refused("row(4, -1)", OUTSIDE).refused("row(18, -1)", OUTSIDE).asked("count(8)", 0);
    }

    static Story p03FullAheadOfSize() {
        Story s = full("the first of these that fits, ahead of FINDINGS");
        return s.refused("row(5, -1)", FULL).refused("row(17, " + MIN + ")", FULL).asked("count(8)", 0);
    }

    static Story p09KindTooSmall() {
        Story s = oneOfEach("taken for a KIND (5 to 17)").asked("size(5, 5)", 3);
        for (int t = 0; t <= 18; t++) {
            s.refused("size(" + t + ", 4)", OUTSIDE).refused("size(" + t + ", -1)", OUTSIDE);
        }
        return s.refused("size(5, " + MIN + ")", OUTSIDE);
    }

    static Story p09KindTooLarge() {
        Story s = oneOfEach("taken for a KIND (5 to 17)").asked("size(17, 17)", 3);
        for (int t = 0; t <= 18; t++) {
            s.refused("size(" + t + ", 18)", OUTSIDE).refused("size(" + t + ", 20)", OUTSIDE);
        }
        return s.refused("size(17, " + MAX + ")", OUTSIDE);
    }

    static Story p09OfAnotherKind() {
        Story s = oneOfEach("size: KIND");
        int findings = 0;
        for (int t = 0; t <= 18; t++) {
            for (int kind = 5; kind <= 17; kind++) {
                String call = "size(" + t + ", " + kind + ")";
                if (isOf(t, kind)) {
                    s.asked(call, 3);
                } else {
                    s.found(call, KIND);
                    findings++;
                }
            }
        }
        return s.asked("count(4)", findings);
    }

    static Story p09OfNoPlacesAndOfTen() {
        Story s = new Story("How many places a THING has");
        s.does("row(12, 0)", 0).does("row(12, 10)", 1);
        for (int kind : new int[] {10, 11, 12, 14}) {
            s.asked("size(0, " + kind + ")", 0).asked("size(1, " + kind + ")", 10);
        }
        return s;
    }

    static Story p09Unknown() {
        Story s = oneOfEach("size: UNKNOWN");
        for (int t : noThings(19)) {
            s.refused("size(" + t + ", 5)", UNKNOWN).refused("size(" + t + ", 17)", UNKNOWN);
        }
        return s;
    }

    static Story p09UnknownThenOutsideThenKind() {
        Story s = oneOfEach("the first of these that fits, ahead of FINDINGS");
        s.refused("size(19, 4)", UNKNOWN).refused("size(-1, 18)", UNKNOWN);
        return s.refused("size(0, 4)", OUTSIDE).refused("size(18, 18)", OUTSIDE).found("size(18, 17)", KIND);
    }

    /** LABEL 0, SIZES 1, MARKS 2, READINGS 3, each of 10 places, with a 1 in each. */
    private static Story ones(String sentence) {
        Story s = new Story(sentence);
        for (int kind : PLAIN) {
            s.does("row(" + kind + ", 10)", kind - 5);
        }
        for (int kind : PLAIN) {
            for (int i = 0; i < 10; i++) {
                s.does("write(" + (kind - 5) + ", " + kind + ", " + i + ", 1)", 1);
            }
        }
        return s;
    }

    private static Story wrote(Story s, int kind, int i, long v, long reads) {
        int t = kind - 5;
        s.does("write(" + t + ", " + kind + ", " + i + ", " + v + ")", 1);
        return s.asked("read(" + t + ", " + kind + ", " + i + ")", reads);
    }

    static Story p10FirstPlaceAlone() {
        Story s = ones("Place i of a THING .. becomes v");
        for (int kind : PLAIN) {
            wrote(s, kind, 0, 0, 0).asked("read(" + (kind - 5) + ", " + kind + ", 1)", 1);
        }
        return s.asked("read(0, 5, 9)", 1).asked("read(1, 6, 9)", 1).asked("read(2, 7, 9)", 1);
    }

    static Story p10LastPlaceAlone() {
        Story s = ones("Place i of a THING .. becomes v");
        for (int kind : PLAIN) {
            wrote(s, kind, 9, 0, 0).asked("read(" + (kind - 5) + ", " + kind + ", 8)", 1);
        }
        return s.asked("read(1, 6, 0)", 1).asked("read(2, 7, 0)", 1).asked("read(3, 8, 0)", 1);
    }

    static Story p10KindTooSmall() {
        Story s = ones("taken for a KIND (5 to 8)").does("makeCase()", 4).does("thing(4, 0)", 5);
        s.refused("write(0, 4, 0, 0)", OUTSIDE).refused("write(0, -1, 0, 0)", OUTSIDE);
        return s.refused("write(0, " + MIN + ", 0, 0)", OUTSIDE).refused("write(5, 4, 0, 0)", OUTSIDE);
    }

    static Story p10KindTooLarge() {
        Story s = ones("taken for a KIND (5 to 8)").does("row(9, 1)", 4);
        s.refused("write(4, 9, 0, 0)", OUTSIDE).refused("write(3, 9, 0, 0)", OUTSIDE);
        return s.refused("write(3, 20, 0, 0)", OUTSIDE).refused("write(3, " + MAX + ", 0, 0)", OUTSIDE);
    }

    static Story p10SignWraps() {
        Story s = ones("becomes v (its lowest bits .. a sign 0 .. 65535");
        wrote(s, 5, 0, 65535, 65535);
        wrote(s, 5, 1, 65536, 0);
        wrote(s, 5, 2, 65537, 1);
        wrote(s, 5, 3, -1, 65535);
        wrote(s, 5, 4, 32768, 32768);
        wrote(s, 5, 5, -65536, 0);
        wrote(s, 5, 6, 1L << 32, 0);
        wrote(s, 5, 7, (1L << 40) + 77, 77);
        wrote(s, 5, 8, Long.MAX_VALUE, 65535);
        return wrote(s, 5, 9, Long.MIN_VALUE, 0);
    }

    static Story p10ShortWraps() {
        Story s = ones("becomes v (its lowest bits .. a short with sign");
        wrote(s, 6, 0, 32767, 32767);
        wrote(s, 6, 1, 32768, -32768);
        wrote(s, 6, 2, -32768, -32768);
        wrote(s, 6, 3, -32769, 32767);
        wrote(s, 6, 4, 65535, -1);
        wrote(s, 6, 5, 65536, 0);
        wrote(s, 6, 6, 1L << 32, 0);
        wrote(s, 6, 7, -(1L << 40) - 2, -2);
        wrote(s, 6, 8, Long.MAX_VALUE, -1);
        return wrote(s, 6, 9, Long.MIN_VALUE, 0);
    }

    static Story p10MarkIsTheLowestBit() {
        Story s = ones("a mark: the lowest one");
        wrote(s, 7, 0, 0, 0);
        wrote(s, 7, 1, 2, 0);
        wrote(s, 7, 2, 3, 1);
        wrote(s, 7, 3, -1, 1);
        wrote(s, 7, 4, -2, 0);
        wrote(s, 7, 5, 65536, 0);
        wrote(s, 7, 6, 1L << 32, 0);
        wrote(s, 7, 7, (1L << 32) + 1, 1);
        wrote(s, 7, 8, Long.MAX_VALUE, 1);
        return wrote(s, 7, 9, Long.MIN_VALUE, 0);
    }

    static Story p10ReadingSmallestAndLargest() {
        Story s = ones("a reading in eighths, from - 2^31 to 2^31 - 1 of them");
        wrote(s, 8, 0, MAX, MAX);
        wrote(s, 8, 1, MIN, MIN);
        wrote(s, 8, 2, MAX - 1, MAX - 1);
        wrote(s, 8, 3, MIN + 1, MIN + 1);
        wrote(s, 8, 4, -1, -1);
        wrote(s, 8, 5, 7, 7);
        wrote(s, 8, 6, 9, 9);
        wrote(s, 8, 7, 0, 0);
        return wrote(s, 8, 9, 65537, 65537);
    }

    static Story p10ReadingTooLarge() {
        Story s = ones("v of a reading beyond an int's");
        s.refused("write(3, 8, 0, " + (MAX + 1L) + ")", OUTSIDE).refused("write(3, 8, 9, " + (1L << 32) + ")", OUTSIDE);
        return s.refused("write(3, 8, 0, " + Long.MAX_VALUE + ")", OUTSIDE);
    }

    static Story p10ReadingTooSmall() {
        Story s = ones("v of a reading beyond an int's");
        s.refused("write(3, 8, 0, " + (MIN - 1L) + ")", OUTSIDE).refused("write(3, 8, 9, -" + (1L << 32) + ")", OUTSIDE);
        return s.refused("write(3, 8, 0, " + Long.MIN_VALUE + ")", OUTSIDE);
    }

    static Story p10PlaceTooSmall() {
        Story s = ones("write: PLACE");
        for (int kind : PLAIN) {
            String row = "write(" + (kind - 5) + ", " + kind + ", ";
            s.found(row + "-1, 0)", PLACE).found(row + NONE + ", 0)", PLACE).found(row + MIN + ", 0)", PLACE);
        }
        return s.asked("count(6)", 12);
    }

    static Story p10PlaceTooLarge() {
        Story s = ones("write: PLACE");
        for (int kind : PLAIN) {
            String row = "write(" + (kind - 5) + ", " + kind + ", ";
            s.found(row + "10, 0)", PLACE).found(row + "11, 0)", PLACE).found(row + MAX + ", 0)", PLACE);
        }
        return s.asked("count(6)", 12);
    }

    static Story p10PlaceBehindAShortRow() {
        Story s = oneOfEach("PLACE: there is no such place");
        for (int kind : PLAIN) {
            s.does("write(" + kind + ", " + kind + ", 2, 1)", 1).found("write(" + kind + ", " + kind + ", 3, 1)", PLACE);
        }
        return s;
    }

    static Story p10PlaceInARowOfNone() {
        Story s = new Story("PLACE: there is no such place");
        for (int kind : PLAIN) {
            s.does("row(" + kind + ", 0)", kind - 5).found("write(" + (kind - 5) + ", " + kind + ", 0, 1)", PLACE);
        }
        return s.does("row(5, 1)", 4).asked("read(4, 5, 0)", 0);
    }

    static Story p10OfAnotherKind() {
        Story s = oneOfEach("write: KIND");
        for (int t = 0; t <= 18; t++) {
            for (int kind : PLAIN) {
                if (t != kind) {
                    s.found("write(" + t + ", " + kind + ", 0, 1)", KIND);
                }
            }
        }
        return s.asked("count(4)", 72);
    }

    static Story p10Unknown() {
        Story s = oneOfEach("write: UNKNOWN");
        for (int t : noThings(19)) {
            s.refused("write(" + t + ", 5, 0, 1)", UNKNOWN).refused("write(" + t + ", 8, 0, 1)", UNKNOWN);
        }
        return s;
    }

    static Story p10UnknownAheadOfOutside() {
        Story s = oneOfEach("UNKNOWN .., OUTSIDE ..: the first of these that fits");
        s.refused("write(19, 4, 0, 0)", UNKNOWN).refused("write(-1, 9, 0, 0)", UNKNOWN);
        return s.refused("write(19, 8, 0, " + (1L << 31) + ")", UNKNOWN);
    }

    static Story p10OutsideAheadOfKindAndPlace() {
        Story s = oneOfEach("the first of these that fits, ahead of FINDINGS");
        s.refused("write(0, 4, 9, 0)", OUTSIDE).refused("write(18, 9, -1, 0)", OUTSIDE);
        s.refused("write(6, 8, 0, " + (1L << 31) + ")", OUTSIDE).refused("write(8, 8, 3, " + (1L << 31) + ")", OUTSIDE);
        return s.refused("write(0, 8, -1, " + (MIN - 1L) + ")", OUTSIDE);
    }

    static Story p10KindAheadOfPlace() {
        Story s = oneOfEach("write: .. KIND, PLACE");
        s.found("write(6, 5, 9, 0)", KIND).found("write(0, 8, -1, 0)", KIND).found("write(18, 7, 0, 0)", KIND);
        return s.asked("count(4)", 3).asked("count(6)", 0);
    }

    static Story p10OnlyAReadingIsOutsideByItsNumber() {
        Story s = oneOfEach("also: v of a reading beyond an int's");
        s.found("write(8, 5, 0, " + (1L << 31) + ")", KIND).found("write(5, 5, 3, " + (1L << 31) + ")", PLACE);
        return s.does("write(5, 5, 0, " + (1L << 31) + ")", 1).does("write(6, 6, 0, " + (MIN - 1L) + ")", 1)
            .asked("read(6, 6, 0)", -1).does("write(7, 7, 0, " + (MIN - 1L) + ")", 1).asked("read(7, 7, 0)", 1);
    }

    static Story p11Unknown() {
        Story s = oneOfEach("0: UNKNOWN");
        for (int t : noThings(19)) {
            s.asked("read(" + t + ", 5, 0)", 0).asked("read(" + t + ", 8, 9)", 0).asked("read(" + t + ", 4, 0)", 0);
        }
        return s;
    }

    static Story p11KindTooSmall() {
        Story s = ones("0: .. OUTSIDE").does("thing(4, 0)", 4);
        s.asked("read(0, 4, 0)", 0).asked("read(4, 4, 0)", 0).asked("read(0, -1, 0)", 0);
        return s.asked("read(0, " + MIN + ", 0)", 0).asked("read(0, 5, 0)", 1);
    }

    static Story p11KindTooLarge() {
        Story s = ones("0: .. OUTSIDE").does("row(9, 1)", 4);
        s.asked("read(3, 9, 0)", 0).asked("read(4, 9, 0)", 0).asked("read(3, 20, 0)", 0);
        return s.asked("read(3, " + MAX + ", 0)", 0).asked("read(3, 8, 0)", 1);
    }

    static Story p11OutsideAheadOfKindAndPlace() {
        Story s = oneOfEach("the first of these that fits, ahead of FINDINGS");
        return s.asked("read(0, 4, 9)", 0).asked("read(18, 9, -1)", 0).asked("read(9, 9, 3)", 0);
    }

    static Story p11OfAnotherKind() {
        Story s = oneOfEach("ClassCastException: KIND");
        for (int t = 0; t <= 18; t++) {
            for (int kind : PLAIN) {
                s.asked("read(" + t + ", " + kind + ", 0)", t == kind ? 0 : Check.CAST);
            }
        }
        return s.asked("count(4)", 0);
    }

    static Story p11PlaceTooSmall() {
        Story s = ones("ArrayIndexOutOfBoundsException: PLACE");
        for (int kind : PLAIN) {
            String row = "read(" + (kind - 5) + ", " + kind + ", ";
            s.asked(row + "-1)", Check.INDEX).asked(row + MIN + ")", Check.INDEX).asked(row + "0)", 1);
        }
        return s.asked("count(6)", 0);
    }

    static Story p11PlaceTooLarge() {
        Story s = ones("ArrayIndexOutOfBoundsException: PLACE");
        for (int kind : PLAIN) {
            String row = "read(" + (kind - 5) + ", " + kind + ", ";
            s.asked(row + "10)", Check.INDEX).asked(row + MAX + ")", Check.INDEX).asked(row + "9)", 1);
        }
        return s.asked("count(6)", 0);
    }

    static Story p11PlaceBehindAShortRow() {
        Story s = oneOfEach("ArrayIndexOutOfBoundsException: PLACE");
        for (int kind : PLAIN) {
            s.asked("read(" + kind + ", " + kind + ", 2)", 0).asked("read(" + kind + ", " + kind + ", 3)", Check.INDEX);
        }
        return s;
    }

    static Story p11PlaceInARowOfNone() {
        Story s = new Story("ArrayIndexOutOfBoundsException: PLACE");
        for (int kind : PLAIN) {
            s.does("row(" + kind + ", 0)", kind - 5).asked("read(" + (kind - 5) + ", " + kind + ", 0)", Check.INDEX);
        }
        return s;
    }

    static Story p11KindAheadOfPlace() {
        Story s = oneOfEach("ClassCastException: KIND; ArrayIndexOutOfBoundsException: PLACE");
        return s.asked("read(6, 5, 9)", Check.CAST).asked("read(0, 8, -1)", Check.CAST)
            .asked("read(18, 7, 0)", Check.CAST);
    }
}
