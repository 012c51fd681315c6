/** Boundary sentences of the promises 14 to 21: tracks and squares. */
final class SquaresBounds {
    private static final Expect expect = Bounds.expect;

    private interface On {
        boolean is(StreetIndex index, int street, int column, int row);
    }

    static void run() {
        trackLength();
        squares();
        runs();
        Bounds.promise(17);
        isOn(StreetIndex::isOn);
        Bounds.test("Tells whether a square is one of a street", "each square", () -> eachSquare(StreetIndex::isOn));
        Bounds.test("Tells whether a square is one of a street", "no square", () -> noSquare(StreetIndex::isOn));
        Bounds.promise(18);
        isOn(StreetIndex::isOnTrack);
        Bounds.test("whether the track comes to the square", "each square", () -> eachSquare(StreetIndex::isOnTrack));
        Bounds.test("whether the track comes to the square", "no square", () -> noSquare(StreetIndex::isOnTrack));
        streetsOf();
        distance();
        nearest();
    }

    private static void trackLength() {
        Bounds.promise(14);
        Bounds.test("Returns how many", "none, one, and 100", SquaresBounds::shortAndLongTracks);
        Bounds.test("those that come several times counted each time", "to and fro, and a crossing",
            SquaresBounds::countedEachTime);
        Bounds.noSuchStreet("if there is no such street", (index, street) -> index.trackLength(street));
    }

    private static void squares() {
        Bounds.promise(15);
        Bounds.test("Returns how many", "none, one, and 88", SquaresBounds::fewAndManySquares);
        Bounds.test("each counted once", "to and fro, and a crossing", SquaresBounds::countedOnce);
        Bounds.noSuchStreet("if there is no such street", (index, street) -> index.squares(street));
    }

    private static void runs() {
        Bounds.promise(16);
        Bounds.test("Returns how many", "none, one, and 56", SquaresBounds::fewAndManyRuns);
        Bounds.test("how many runs the squares of a street make", "the ends of columns", SquaresBounds::runsOfColumns);
        Bounds.noSuchStreet("if there is no such street", (index, street) -> index.runs(street));
    }

    private static void isOn(On on) {
        Bounds.column("`column`: 0 to 11", (index, column, row) -> on.is(index, 0, column, row));
        Bounds.row("`row`: 0 to 11", (index, column, row) -> on.is(index, 0, column, row));
        Bounds.noSuchStreet("if there is no such street or square", (index, street) -> on.is(index, street, 5, 5));
        Bounds.noSuchSquare("if there is no such street or square",
            (index, column, row) -> on.is(index, 1, column, row));
    }

    private static void streetsOf() {
        Bounds.promise(19);
        Bounds.column("`column`: 0 to 11", (index, column, row) -> index.streetsOf(column, row));
        Bounds.row("`row`: 0 to 11", (index, column, row) -> index.streetsOf(column, row));
        Bounds.noSuchSquare("if there is no such square", (index, column, row) -> index.streetsOf(column, row));
        Bounds.test("the sum of 2 to the power of their numbers", "none, each alone, and all 16",
            SquaresBounds::bitsOfStreets);
    }

    private static void distance() {
        Bounds.promise(20);
        Bounds.column("`column`: 0 to 11", (index, column, row) -> index.distance(0, column, row));
        Bounds.row("`row`: 0 to 11", (index, column, row) -> index.distance(0, column, row));
        Bounds.noSuchStreet("if there is no such street or square", (index, street) -> index.distance(street, 5, 5));
        Bounds.noSuchSquare("if there is no such street or square",
            (index, column, row) -> index.distance(1, column, row));
        Bounds.test("the difference of the columns or of the rows, whichever is greater", "more, fewer, as many",
            SquaresBounds::greaterDifference);
        Bounds.test("how far the nearest square of a street is", "1 to 11", SquaresBounds::nearAndFar);
        Bounds.test("0 if the square is one of the street", "each of its squares", SquaresBounds::distanceOnTheStreet);
        Bounds.test("-1 if the street has no squares", "a new street, and the last point dropped",
            () -> withoutSquares((index, square) -> index.distance(0, square / 12, square % 12)));
    }

    private static void nearest() {
        Bounds.promise(21);
        Bounds.column("`column`: 0 to 11", (index, column, row) -> index.nearest(0, column, row));
        Bounds.row("`row`: 0 to 11", (index, column, row) -> index.nearest(0, column, row));
        Bounds.noSuchStreet("if there is no such street or square", (index, street) -> index.nearest(street, 5, 5));
        Bounds.noSuchSquare("if there is no such street or square",
            (index, column, row) -> index.nearest(1, column, row));
        Bounds.test("Returns 12 times its column, and its row", "0 to 143", SquaresBounds::numbersOfSquares);
        Bounds.test("of several squares that are as near the lowest such number", "of one column, and of several",
            SquaresBounds::lowestOfSeveral);
        Bounds.test("-1 if the street has no squares", "a new street, and the last point dropped",
            () -> withoutSquares((index, square) -> index.nearest(0, square / 12, square % 12)));
    }

    private static StreetIndex spiral() {
        return Bounds.oak("A1", "L1", "L12", "A12", "A2", "K2", "K11", "B11", "B3", "J3");
    }

    // ---- promises 14 to 16

    private static void shortAndLongTracks() {
        StreetIndex index = Bounds.oak();
        expect.same("no point", index.trackLength(0), 0);
        for (int point = 0; point < 10; point++) {
            index.addPoint(0, 11 * (point % 2), 11 * (point % 2));
            expect.same("with point " + point, index.trackLength(0), 1 + 11 * point);
        }
        expect.same("the spiral", spiral().trackLength(0), 88);
    }

    private static void countedEachTime() {
        expect.same("to and fro", Bounds.oak("A1", "A2", "A1").trackLength(0), 3);
        expect.same("to and fro again", Bounds.oak("A1", "A3", "A2", "A4").trackLength(0), 6);
        expect.same("a crossing", Bounds.oak("A2", "C2", "C1", "B1", "B3").trackLength(0), 7);
        expect.same("back to the first square", Bounds.oak("A1", "B2", "B1", "A1").trackLength(0), 4);
    }

    private static void fewAndManySquares() {
        StreetIndex index = Bounds.oak();
        expect.same("no point", index.squares(0), 0);
        Expect.points(index, 0, "L12");
        expect.same("one point", index.squares(0), 1);
        index.dropPoint(0);
        expect.same("no point any more", index.squares(0), 0);
        expect.same("the spiral", spiral().squares(0), 88);
    }

    private static void countedOnce() {
        expect.same("to and fro", Bounds.oak("A1", "A2", "A1").squares(0), 2);
        expect.same("to and fro again", Bounds.oak("A1", "A3", "A2", "A4").squares(0), 4);
        expect.same("a crossing", Bounds.oak("A2", "C2", "C1", "B1", "B3").squares(0), 6);
        expect.same("back to the first square", Bounds.oak("A1", "B2", "B1", "A1").squares(0), 3);
        StreetIndex index = Bounds.oak("A1", "L12", "A1", "L12", "A1", "L12", "A1", "L12", "A1", "L12");
        expect.same("nine times the same way", index.squares(0), 12);
    }

    private static void fewAndManyRuns() {
        StreetIndex index = Bounds.oak();
        expect.same("no point", index.runs(0), 0);
        Expect.points(index, 0, "L12");
        expect.same("one square", index.runs(0), 1);
        Expect.points(index, 0, "L11");
        expect.same("two squares of a column", index.runs(0), 1);
        Expect.points(index, 0, "K11");
        expect.same("and one of the next column", index.runs(0), 2);
        index = Bounds.oak("A12", "L12", "L10", "A10", "A8", "L8", "L6", "A6", "A4", "L4");
        expect.same("five rows, joined at the ends", index.runs(0), 56);
    }

    private static void runsOfColumns() {
        expect.same("a whole column", Bounds.oak("A1", "A12").runs(0), 1);
        expect.same("row 12, and row 1 of the next column", Bounds.oak("A12", "A1", "B1").runs(0), 2);
        expect.same("K1 to K12, and L1", Bounds.oak("K12", "K1", "L1").runs(0), 2);
        expect.same("a row", Bounds.oak("A12", "L12").runs(0), 12);
        expect.same("a diagonal", Bounds.oak("A1", "L12").runs(0), 12);
        expect.same("a row left out", Bounds.oak("C1", "D2", "C3").runs(0), 3);
        expect.same("a row left out at the end", Bounds.oak("C12", "B11", "C10", "C1").runs(0), 3);
        expect.same("the parts joined", Bounds.oak("C1", "D2", "C3", "C2").runs(0), 2);
    }

    // ---- promises 17 to 19

    private static void eachSquare(On on) {
        StreetIndex index = Bounds.oak("A1", "A12", "L1", "L12");
        Expect.add(index, Expect.ELM);
        for (int square = 0; square < 144; square++) {
            int column = square / 12;
            int row = square % 12;
            boolean due = column == 0 || column == 11 || column + row == 11;
            expect.same("square " + square, on.is(index, 0, column, row), due);
            expect.same("square " + square + " of the other street", on.is(index, 1, column, row), false);
        }
    }

    private static void noSquare(On on) {
        StreetIndex index = Bounds.oak();
        expect.same("A1 of a new street", on.is(index, 0, 0, 0), false);
        Expect.points(index, 0, "A1");
        expect.same("A1", on.is(index, 0, 0, 0), true);
        expect.same("A2", on.is(index, 0, 0, 1), false);
        index.dropPoint(0);
        expect.same("A1 no more", on.is(index, 0, 0, 0), false);
        Expect.points(index, 0, "A1", "C1");
        index.dropPoint(0);
        expect.same("B1 no more", on.is(index, 0, 1, 0), false);
        expect.same("A1 still", on.is(index, 0, 0, 0), true);
    }

    private static void bitsOfStreets() {
        StreetIndex index = Bounds.streets(16);
        expect.same("no street", index.streetsOf(11, 11), 0);
        for (int street = 0; street < 16; street++) {
            Expect.points(index, street, "L12");
            expect.same("streets 0 to " + street, index.streetsOf(11, 11), (1 << (street + 1)) - 1);
            expect.same("beside", index.streetsOf(11, 10), 0);
        }
        for (int street = 0; street < 15; street++) {
            index.dropPoint(street);
        }
        expect.same("the last street alone", index.streetsOf(11, 11), 32768);
        // A street that comes several times counts once.
        Expect.points(index, 0, "L12", "L11", "L12");
        expect.same("the first and the last street", index.streetsOf(11, 11), 32769);
        expect.same("the first street alone", index.streetsOf(11, 10), 1);
    }

    // ---- promises 20 and 21

    private interface OfSquare {
        int ask(StreetIndex index, int square);
    }

    private static void withoutSquares(OfSquare call) {
        StreetIndex index = Bounds.oak();
        Expect.add(index, Expect.ELM);
        Expect.points(index, 1, "A1", "L12");
        for (int square = 0; square < 144; square++) {
            expect.same("of a new street, square " + square, call.ask(index, square), -1);
        }
        Expect.points(index, 0, "A1", "A3");
        expect.same("A1, of a street", call.ask(index, 0), 0);
        index.dropPoint(0);
        expect.same("A1, of one square", call.ask(index, 0), 0);
        index.dropPoint(0);
        expect.same("A1, of none any more", call.ask(index, 0), -1);
    }

    private static void far(StreetIndex index, String square, int due) {
        expect.same("distance of " + square, index.distance(0, Expect.column(square), Expect.row(square)), due);
    }

    private static void greaterDifference() {
        StreetIndex index = Bounds.oak("F6");
        far(index, "J7", 4);
        far(index, "B5", 4);
        far(index, "G10", 4);
        far(index, "E2", 4);
        far(index, "J10", 4);
        far(index, "B10", 4);
        far(index, "F7", 1);
        far(index, "G6", 1);
        far(index, "E5", 1);
    }

    private static void nearAndFar() {
        StreetIndex index = Bounds.oak("A1");
        for (int k = 0; k < 12; k++) {
            expect.same("in a row, " + k, index.distance(0, k, 0), k);
            expect.same("in a column, " + k, index.distance(0, 0, k), k);
            expect.same("on the diagonal, " + k, index.distance(0, k, k), k);
        }
        // Nearer than the points are the squares between them.
        index = Bounds.oak("A1", "L1");
        far(index, "F3", 2);
        Expect.points(index, 0, "A12");
        far(index, "F6", 1);
        far(index, "L12", 6);
    }

    private static void distanceOnTheStreet() {
        StreetIndex index = spiral();
        for (int square = 0; square < 144; square++) {
            boolean on = index.isOn(0, square / 12, square % 12);
            int far = index.distance(0, square / 12, square % 12);
            expect.same("square " + square + " is 0 far", far == 0, on);
        }
        far(index, "A1", 0);
        far(index, "J3", 0);
        far(index, "L7", 0);
    }

    private static void near(StreetIndex index, String square, String due) {
        int got = index.nearest(0, Expect.column(square), Expect.row(square));
        expect.same("nearest to " + square, got, Expect.square(due));
    }

    private static void numbersOfSquares() {
        for (int square = 0; square < 144; square++) {
            StreetIndex index = Bounds.oak();
            index.addPoint(0, square / 12, square % 12);
            expect.same("the square itself", index.nearest(0, square / 12, square % 12), square);
            expect.same("from F6", index.nearest(0, 5, 5), square);
        }
        near(Bounds.oak("A1", "A12"), "L8", "A1");
        near(Bounds.oak("A1", "L12"), "A12", "F6");
    }

    private static void lowestOfSeveral() {
        // Of one column, drawn both ways.
        near(Bounds.oak("C1", "C12"), "H6", "C1");
        near(Bounds.oak("C12", "C2"), "E6", "C4");
        near(Bounds.oak("C5", "C4"), "D5", "C4");
        // Of one row, and of several columns.
        near(Bounds.oak("H8", "B8"), "E5", "B8");
        near(Bounds.oak("E2", "B5", "E8", "H5"), "E5", "C4");
        near(Bounds.oak("H8", "H2", "B2", "B8"), "E5", "B2");
        // A lower row of a higher column does not come ahead.
        near(Bounds.oak("H2", "B8"), "E5", "E5");
        near(Bounds.oak("G3", "G7", "C7"), "E5", "C7");
        // The nearest one comes ahead of lower numbers that are farther.
        near(Bounds.oak("A1", "L1", "L5"), "K5", "L4");
    }
}
