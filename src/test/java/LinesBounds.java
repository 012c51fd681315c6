/** Boundary sentences of the Terms: the lines of the index and the runs in them. */
final class LinesBounds {
    private static final Expect expect = Bounds.expect;

    static void run() {
        Bounds.section("Terms");
        Bounds.test("the words of the name that are not moved, in their order, separated by spaces", "1 to 4 words",
            LinesBounds::wordsThatStay);
        Bounds.test("then, if there are moved words, a comma, a space, and these in their order", "1 to 3 words",
            LinesBounds::movedWords);
        Bounds.test("(if all words are moved, they stand as if none was)", "1 to 4 words", LinesBounds::allMoved);
        Bounds.test("then, if the street has squares, a colon", "no square, and one", LinesBounds::colon);
        Bounds.test("and for each of its runs a space and the run", "1 and 2 runs", LinesBounds::spaceAndRun);
        Bounds.test("sorted by columns and within a column by rows", "drawn backwards", LinesBounds::sorted);
        Bounds.test("sorted by columns and within a column by rows", "rows 9 and 10", LinesBounds::nineAheadOfTen);
        Bounds.test("squares of one column in rows that follow one another are one run", "a row left out",
            LinesBounds::rowLeftOut);
        Bounds.test("squares of one column in rows that follow one another are one run", "row 12 and row 1 of the next",
            LinesBounds::nextColumn);
        Bounds.test("squares of one column in rows that follow one another are one run", "parts that meet",
            LinesBounds::partsThatMeet);
        Bounds.test("A run of one square is the letter of the column and the number of the row", "one square",
            LinesBounds::oneSquare);
        Bounds.test("one of several squares has also a hyphen and the number of the last row", "2 and 12 squares",
            LinesBounds::severalSquares);
    }

    private static void line(StreetIndex index, String due) {
        expect.same("line", Expect.line(index, 0), due);
    }

    private static StreetIndex named(int... words) {
        StreetIndex index = new StreetIndex();
        Expect.add(index, words);
        return index;
    }

    private static void wordsThatStay() {
        line(named(Expect.ELM), "elm");
        line(named(Expect.OF, Expect.ELM), "of elm");
        line(named(Expect.ELM, Expect.OF, Expect.THE, Expect.OAK), "elm of the oak");
        line(named(Expect.ELM, Expect.ELM, Expect.ELM, Expect.ELM), "elm elm elm elm");
    }

    private static void movedWords() {
        StreetIndex index = named(Expect.NEW, Expect.OLD, Expect.OAK, Expect.GREAT);
        index.setKind(Expect.NEW, Expect.MOVED);
        line(index, "old oak great, new");
        index.setKind(Expect.GREAT, Expect.MOVED);
        line(index, "old oak, new great");
        index.setKind(Expect.OLD, Expect.MOVED);
        line(index, "oak, new old great");
        index.setKind(Expect.OAK, Expect.PARTICLE);
        line(index, "oak, new old great");
        index.setKind(Expect.NEW, Expect.ORDINARY);
        line(index, "new oak, old great");
    }

    private static void allMoved() {
        StreetIndex index = named(Expect.OLD);
        index.setKind(Expect.OLD, Expect.MOVED);
        line(index, "old");
        index.rename(0, 4, Expect.name(Expect.OLD, Expect.OLD, Expect.OLD, Expect.OLD));
        line(index, "old old old old");
        Expect.points(index, 0, "A1");
        line(index, "old old old old: A1");
        index.setKind(Expect.NEW, Expect.MOVED);
        index.rename(0, 2, Expect.name(Expect.OLD, Expect.NEW));
        line(index, "old new: A1");
    }

    private static void colon() {
        StreetIndex index = Bounds.oak();
        line(index, "oak");
        Expect.points(index, 0, "D8");
        line(index, "oak: D8");
        index.dropPoint(0);
        line(index, "oak");
    }

    private static void spaceAndRun() {
        line(Bounds.oak("D8"), "oak: D8");
        line(Bounds.oak("D8", "E8"), "oak: D8 E8");
        line(Bounds.oak("D8", "E8", "E9"), "oak: D8 E8-9");
    }

    private static void sorted() {
        line(Bounds.oak("L3", "A3"), "oak: A3 B3 C3 D3 E3 F3 G3 H3 I3 J3 K3 L3");
        // Down to B9 first, then up to B2 over the column C.
        line(Bounds.oak("B12", "B9", "C8", "C3", "B2"), "oak: B2 B9-12 C3-8");
    }

    private static void nineAheadOfTen() {
        line(Bounds.oak("F11", "G10", "F9"), "oak: F9 F11 G10");
        line(Bounds.oak("F12", "G11", "F10", "G9", "F8", "G8", "F8"), "oak: F8 F10 F12 G8-9 G11");
        line(Bounds.oak("F9", "F10"), "oak: F9-10");
    }

    private static void rowLeftOut() {
        line(Bounds.oak("B3", "C4", "B5"), "oak: B3 B5 C4");
        line(Bounds.oak("A1", "A2", "B3", "A4", "A5"), "oak: A1-2 A4-5 B3");
    }

    private static void nextColumn() {
        line(Bounds.oak("A12", "A11", "B10", "B1"), "oak: A11-12 B1-10");
        line(Bounds.oak("K12", "K1", "L1"), "oak: K1-12 L1");
        line(Bounds.oak("A12", "B11", "B1"), "oak: A12 B1-11");
    }

    private static void partsThatMeet() {
        StreetIndex index = Bounds.oak("C1", "C3", "D4", "C5", "C7");
        line(index, "oak: C1-3 C5-7 D4");
        Expect.points(index, 0, "C4");
        line(index, "oak: C1-7 D4");
    }

    private static void oneSquare() {
        line(Bounds.oak("A1"), "oak: A1");
        line(Bounds.oak("B3"), "oak: B3");
        line(Bounds.oak("L12"), "oak: L12");
        line(Bounds.oak("A10"), "oak: A10");
    }

    private static void severalSquares() {
        line(Bounds.oak("B3", "B4"), "oak: B3-4");
        line(Bounds.oak("B5", "B3"), "oak: B3-5");
        line(Bounds.oak("L12", "L11"), "oak: L11-12");
        line(Bounds.oak("A1", "A2"), "oak: A1-2");
        line(Bounds.oak("G12", "G1"), "oak: G1-12");
    }
}
