/** Boundary sentences of the promises 22 to 24: walks. */
final class WalksBounds {
    private static final Expect expect = Bounds.expect;

    /** walk and walkByRounds promise the same. */
    private interface Walk {
        int steps(StreetIndex index, int column, int row, int toColumn, int toRow);
    }

    static void run() {
        Bounds.promise(22);
        walks(StreetIndex::walk);
        Bounds.test("Returns the fewest steps of a walk", "one step, and the most steps of one street",
            () -> fewAndManySteps(StreetIndex::walk));
        Bounds.test("Returns the fewest steps of a walk", "all squares of the plan",
            () -> allSquares(StreetIndex::walk));
        Bounds.test("Returns the fewest steps of a walk", "the shortest of several",
            () -> shortestOfSeveral(StreetIndex::walk));
        Bounds.test("Returns the fewest steps of a walk", "a round of three squares",
            () -> threeSquares(StreetIndex::walk));
        Bounds.promise(23);
        walks(StreetIndex::walkByRounds);
        Bounds.test("each square of a track is told how far the other square is", "the most steps of one street",
            () -> fewAndManySteps(StreetIndex::walkByRounds));
        Bounds.test("until nothing becomes less", "all squares of the plan",
            () -> allSquares(StreetIndex::walkByRounds));
        Bounds.test("until nothing becomes less", "two streets by turns", WalksBounds::twoStreetsByTurns);
        Bounds.test("until nothing becomes less", "fifteen streets by turns", WalksBounds::fifteenStreetsByTurns);
        Bounds.test("Returns the same", "the shortest of several", () -> shortestOfSeveral(StreetIndex::walkByRounds));
        Bounds.test("Returns the same", "a round of three squares", () -> threeSquares(StreetIndex::walkByRounds));
        Bounds.promise(24);
        reachable();
    }

    private static void walks(Walk walk) {
        Bounds.column("`column`: 0 to 11", (index, column, row) -> walk.steps(index, column, row, 5, 5));
        Bounds.row("`row`: 0 to 11", (index, column, row) -> walk.steps(index, column, row, 5, 5));
        Bounds.column("`toColumn`: 0 to 11", (index, column, row) -> walk.steps(index, 5, 5, column, row));
        Bounds.row("`toRow`: 0 to 11", (index, column, row) -> walk.steps(index, 5, 5, column, row));
        Bounds.noSuchSquare("if there is no such square", (index, column, row) -> walk.steps(index, column, row, 0, 0));
        Bounds.noSuchSquare("if there is no such square", (index, column, row) -> walk.steps(index, 0, 0, column, row));
        Bounds.noSuchSquare("if there is no such square",
            (index, column, row) -> walk.steps(index, column, row, column, row));
        Bounds.test("0 if both are the same square", "on a street, and off all streets", () -> sameSquare(walk));
        Bounds.test("-1 if there is no walk", "no street, one square, no common square", () -> noStreetLeads(walk));
        Bounds.test("-1 if there is no walk", "against a one-way street", () -> againstOneWay(walk));
    }

    private static void reachable() {
        Bounds.column("`column`: 0 to 11", (index, column, row) -> index.reachable(column, row));
        Bounds.row("`row`: 0 to 11", (index, column, row) -> index.reachable(column, row));
        Bounds.noSuchSquare("if there is no such square", (index, column, row) -> index.reachable(column, row));
        Bounds.test("the square itself counted", "off all streets, and a street of one square",
            WalksBounds::itselfAlone);
        Bounds.test("the square itself counted", "once, though walks come back to it", WalksBounds::itselfOnce);
        Bounds.test("Returns how many squares can be come to by walks", "from both ends of a one-way street",
            WalksBounds::reachedOneWay);
        Bounds.test("Returns how many squares can be come to by walks", "over several streets",
            WalksBounds::reachedOverStreets);
        Bounds.test("Returns how many squares can be come to by walks", "all squares of the plan",
            WalksBounds::reachedAll);
    }

    static void both(StreetIndex index, String from, String to, int due) {
        steps(StreetIndex::walk, index, from, to, due);
        steps(StreetIndex::walkByRounds, index, from, to, due);
    }

    private static void steps(Walk walk, StreetIndex index, String from, String to, int due) {
        int steps = walk.steps(index, Expect.column(from), Expect.row(from), Expect.column(to), Expect.row(to));
        expect.same("steps from " + from + " to " + to, steps, due);
    }

    private static void reached(StreetIndex index, String from, int due) {
        expect.same("reachable from " + from, index.reachable(Expect.column(from), Expect.row(from)), due);
    }

    // ---- promises 22 and 23

    private static void sameSquare(Walk walk) {
        StreetIndex index = Bounds.oak("A1", "A3", "C3");
        for (int square = 0; square < 144; square++) {
            int steps = walk.steps(index, square / 12, square % 12, square / 12, square % 12);
            expect.same("from square " + square + " to itself", steps, 0);
        }
        index.setOneWay(0, true);
        steps(walk, index, "A1", "A1", 0);
        steps(walk, index, "A3", "A3", 0);
        steps(walk, index, "C3", "C3", 0);
        steps(walk, new StreetIndex(), "L12", "L12", 0);
    }

    private static void noStreetLeads(Walk walk) {
        steps(walk, new StreetIndex(), "A1", "A2", -1);
        StreetIndex index = Bounds.oak("C3");
        steps(walk, index, "C3", "C4", -1);
        steps(walk, index, "C4", "C3", -1);
        Expect.points(index, 0, "D4");
        Expect.add(index, Expect.ELM);
        Expect.points(index, 1, "C4", "D3");
        // The streets cross between the squares, and lie side by side.
        steps(walk, index, "C3", "D3", -1);
        steps(walk, index, "D3", "D4", -1);
        steps(walk, index, "C3", "L12", -1);
        steps(walk, index, "L12", "C3", -1);
        steps(walk, index, "A12", "B1", -1);
        index.dropPoint(0);
        steps(walk, index, "C3", "D4", -1);
    }

    private static void againstOneWay(Walk walk) {
        StreetIndex index = Bounds.oak("A1", "A3");
        Expect.add(index, Expect.ELM);
        Expect.points(index, 1, "A3", "C3");
        index.setOneWay(1, true);
        steps(walk, index, "A1", "C3", 4);
        steps(walk, index, "C3", "A1", -1);
        steps(walk, index, "B3", "A3", -1);
        steps(walk, index, "A3", "A1", 2);
        // Where the one-way street goes to and fro, one can go both ways.
        Expect.points(index, 1, "B3");
        steps(walk, index, "C3", "B3", 1);
        steps(walk, index, "C3", "A3", -1);
        steps(walk, index, "B3", "C3", 1);
    }

    private static void fewAndManySteps(Walk walk) {
        // A spiral of ten points and 88 squares, none of them twice.
        StreetIndex index = Bounds.oak("A1", "L1", "L12", "A12", "A2", "K2", "K11", "B11", "B3", "J3");
        // A2 lies beside A1, and yet the way there is along the track.
        steps(walk, index, "A1", "B1", 1);
        steps(walk, index, "A1", "A2", 43);
        steps(walk, index, "A1", "J3", 87);
        steps(walk, index, "J3", "A1", 87);
        index.setOneWay(0, true);
        steps(walk, index, "A1", "J3", 87);
        steps(walk, index, "A1", "B1", 1);
        steps(walk, index, "J3", "A1", -1);
    }

    private static final String[][] UP_AND_DOWN = {
        {"A1", "A12", "B12", "B1", "C1", "C12", "D12", "D1", "E1", "E12"},
        {"E12", "F12", "F1", "G1", "G12", "H12", "H1", "I1", "I12", "J12"},
        {"J12", "J1", "K1", "K12", "L12", "L1"}};

    /** Three streets that go up and down over all squares, none twice but where they meet. */
    private static StreetIndex upAndDown(boolean lastFirst, boolean oneWay) {
        StreetIndex index = Bounds.streets(3);
        for (int street = 0; street < 3; street++) {
            Expect.points(index, street, UP_AND_DOWN[lastFirst ? 2 - street : street]);
            index.setOneWay(street, oneWay);
        }
        return index;
    }

    private static void allSquares(Walk walk) {
        for (int order = 0; order < 2; order++) {
            StreetIndex index = upAndDown(order == 1, false);
            steps(walk, index, "A1", "L1", 143);
            steps(walk, index, "L1", "A1", 143);
            steps(walk, index, "A12", "B12", 1);
            steps(walk, index, "A1", "B1", 23);
            StreetIndex oneWay = upAndDown(order == 1, true);
            steps(walk, oneWay, "A1", "L1", 143);
            steps(walk, oneWay, "L1", "A1", -1);
            steps(walk, oneWay, "A2", "A1", -1);
        }
    }

    private static void shortestOfSeveral(Walk walk) {
        StreetIndex index = Bounds.oak("A1", "A12", "L12", "L1");
        steps(walk, index, "A1", "L1", 33);
        Expect.add(index, Expect.ELM);
        Expect.points(index, 1, "A6", "L6");
        steps(walk, index, "A1", "L1", 21);
        Expect.add(index, Expect.MILL);
        Expect.points(index, 2, "L1", "A1");
        steps(walk, index, "A1", "L1", 11);
        index.setOneWay(2, true);
        steps(walk, index, "A1", "L1", 21);
        steps(walk, index, "L1", "A1", 11);
        index.setOneWay(1, true);
        steps(walk, index, "A1", "L1", 21);
        // Around by A1 and the street 1, or down the street 0: as long.
        steps(walk, index, "L6", "A6", 21);
    }

    private static void threeSquares(Walk walk) {
        String[] squares = {"A1", "A2", "B1"};
        for (int first = 0; first < 3; first++) {
            for (int step = 1; step < 3; step++) {
                String second = squares[(first + step) % 3];
                String third = squares[(first + 2 * step) % 3];
                StreetIndex index = Bounds.oak(squares[first], second, third, squares[first]);
                for (String from : squares) {
                    for (String to : squares) {
                        steps(walk, index, from, to, from.equals(to) ? 0 : 1);
                    }
                }
                index.setOneWay(0, true);
                steps(walk, index, squares[first], second, 1);
                steps(walk, index, second, squares[first], 2);
                steps(walk, index, third, second, 2);
                steps(walk, index, third, squares[first], 1);
            }
        }
    }

    /** Two one-way streets that have every other step upwards each, the uppermost one first. */
    private static void twoStreetsByTurns() {
        String[][] parts = {
            {"A11", "A12", "A9", "A10", "A7", "A8", "A5", "A6", "A3", "A4"},
            {"A10", "A11", "A8", "A9", "A6", "A7", "A4", "A5", "A2", "A3"}};
        for (int order = 0; order < 2; order++) {
            StreetIndex index = Bounds.streets(2);
            for (int street = 0; street < 2; street++) {
                Expect.points(index, street, parts[(street + order) % 2]);
                index.setOneWay(street, true);
            }
            steps(StreetIndex::walkByRounds, index, "A2", "A12", 10);
            steps(StreetIndex::walkByRounds, index, "A12", "A2", 10);
            steps(StreetIndex::walkByRounds, index, "A12", "A1", -1);
        }
    }

    /**
     * A way of 75 steps, up and down in columns of eight rows: each of fifteen one-way streets has every fifteenth
     * step of it, the last one first, and goes back between them along a row. Where the streets are gone over in the
     * order of the way, each round tells one step more.
     */
    private static void fifteenStreetsByTurns() {
        for (int order = 0; order < 2; order++) {
            StreetIndex index = Bounds.streets(15);
            for (int street = 0; street < 15; street++) {
                int part = order == 0 ? street : 14 - street;
                for (int step = 60 + part; step >= 0; step -= 15) {
                    addPointOfWay(index, street, step);
                    addPointOfWay(index, street, step + 1);
                }
                index.setOneWay(street, true);
            }
            expect.same("the whole way", index.walkByRounds(0, 0, 9, 4), 75);
            expect.same("the last step", index.walkByRounds(9, 5, 9, 4), 1);
            expect.same("beyond the end", index.walkByRounds(0, 0, 9, 3), -1);
            expect.same("the whole way outwards", index.walk(0, 0, 9, 4), 75);
        }
    }

    private static void addPointOfWay(StreetIndex index, int street, int place) {
        int column = place / 8;
        int row = column % 2 == 0 ? place % 8 : 7 - place % 8;
        index.addPoint(street, column, row);
    }

    // ---- promise 24

    private static void itselfAlone() {
        reached(new StreetIndex(), "A1", 1);
        StreetIndex index = Bounds.oak("F6");
        reached(index, "F6", 1);
        reached(index, "F7", 1);
        reached(index, "L12", 1);
        Expect.points(index, 0, "F7");
        reached(index, "F6", 2);
        reached(index, "F8", 1);
    }

    private static void itselfOnce() {
        reached(Bounds.oak("A1", "A2", "A1", "A2"), "A1", 2);
        StreetIndex index = Bounds.oak("C3", "C6", "F6", "F3", "C3");
        index.setOneWay(0, true);
        reached(index, "C3", 12);
        reached(index, "F6", 12);
    }

    private static void reachedOneWay() {
        StreetIndex index = Bounds.oak("A1", "A12");
        index.setOneWay(0, true);
        reached(index, "A1", 12);
        reached(index, "A11", 2);
        reached(index, "A12", 1);
        index.setOneWay(0, false);
        reached(index, "A12", 12);
    }

    /** Sixteen one-way streets of one step each; the last ones begin the way: the order by numbers is of no help. */
    static StreetIndex sixteenSteps() {
        String[] path = {"A1", "B2", "C3", "D4", "E5", "F6", "G7", "H8", "I9", "J10", "K11", "L12", "K12", "J12", "I12",
            "H12", "G12"};
        StreetIndex index = Bounds.streets(16);
        for (int street = 0; street < 16; street++) {
            Expect.points(index, street, path[15 - street], path[16 - street]);
            index.setOneWay(street, true);
        }
        return index;
    }

    private static void reachedOverStreets() {
        StreetIndex index = sixteenSteps();
        reached(index, "A1", 17);
        reached(index, "G12", 1);
        reached(index, "L12", 6);
        reached(index, "L11", 1);
    }

    private static void reachedAll() {
        StreetIndex index = upAndDown(false, false);
        reached(index, "A1", 144);
        reached(index, "F6", 144);
        StreetIndex oneWay = upAndDown(false, true);
        reached(oneWay, "A1", 144);
        reached(oneWay, "L1", 1);
        reached(oneWay, "L2", 2);
        reached(oneWay, "B12", 132);
    }
}
