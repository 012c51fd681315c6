/** Promises 12 and 13: lineLength, lineChar. */
final class LinesTest {
    private static final Expect expect = new Expect("LinesTest");

    public static void main(String[] args) {
        names();
        allWords();
        movedWords();
        runs();
        longestLine();
        wrongArguments();
        expect.end();
    }

    private static void names() {
        StreetIndex index = new StreetIndex();
        Expect.add(index, Expect.STREET);
        Expect.add(index, Expect.STREET, Expect.OF, Expect.THE, Expect.KING);
        Expect.add(index, Expect.THE, Expect.THE);
        expect.same("line", Expect.line(index, 0), "street");
        expect.same("line", Expect.line(index, 1), "street of the king");
        expect.same("line", Expect.line(index, 2), "the the");
        expect.same("lineLength(1)", index.lineLength(1), 18);
        expect.same("lineChar(1, 6)", index.lineChar(1, 6), ' ');
    }

    private static void allWords() {
        String[] words = {"the", "of", "on", "upon", "old", "new", "upper", "lower", "great", "little", "saint",
            "king", "mill", "oak", "elm", "bridge", "market", "church", "station", "street", "lane", "road", "row",
            "hill"};
        StreetIndex index = new StreetIndex();
        Expect.add(index, 0);
        for (int word = 0; word < 24; word++) {
            index.rename(0, 1, word);
            expect.same("line of word " + word, Expect.line(index, 0), words[word]);
        }
    }

    private static void movedWords() {
        StreetIndex index = new StreetIndex();
        Expect.add(index, Expect.GREAT, Expect.MILL, Expect.OLD, Expect.LANE);
        Expect.add(index, Expect.OLD, Expect.GREAT);
        Expect.add(index, Expect.ON, Expect.OLD);
        Expect.add(index, Expect.ROAD, Expect.GREAT);
        index.setKind(Expect.GREAT, Expect.MOVED);
        expect.same("one moved", Expect.line(index, 0), "mill old lane, great");
        index.setKind(Expect.OLD, Expect.MOVED);
        expect.same("two moved", Expect.line(index, 0), "mill lane, great old");
        expect.same("all moved", Expect.line(index, 1), "old great");
        expect.same("a particle stays", Expect.line(index, 2), "on, old");
        expect.same("the last one moved", Expect.line(index, 3), "road, great");
        Expect.points(index, 1, "A1");
        Expect.points(index, 2, "L12");
        expect.same("all moved, with a run", Expect.line(index, 1), "old great: A1");
        expect.same("moved, with a run", Expect.line(index, 2), "on, old: L12");
        index.setKind(Expect.OLD, Expect.PARTICLE);
        expect.same("no more moved", Expect.line(index, 2), "on old: L12");
    }

    private static void runs() {
        StreetIndex index = new StreetIndex();
        Expect.add(index, Expect.ROW);
        Expect.points(index, 0, "B5", "B3");
        expect.same("one run", Expect.line(index, 0), "row: B3-5");
        Expect.points(index, 0, "D3");
        expect.same("by columns", Expect.line(index, 0), "row: B3-5 C3 D3");
        Expect.points(index, 0, "D12", "B12", "B9");
        expect.same("two runs of a column", Expect.line(index, 0), "row: B3-5 B9-12 C3 C12 D3-12");
        Expect.points(index, 0, "B6");
        expect.same("runs that meet", Expect.line(index, 0), "row: B3-12 C3 C12 D3-12");
        index.dropPoint(0);
        expect.same("and part again", Expect.line(index, 0), "row: B3-5 B9-12 C3 C12 D3-12");

        StreetIndex edge = new StreetIndex();
        Expect.add(edge, Expect.ELM);
        Expect.points(edge, 0, "L1", "L12", "K12", "A2", "A1", "B1");
        expect.same("from edge to edge is no run over columns", Expect.line(edge, 0),
            "elm: A1-2 B1 B3 C4 D5 E6 F7 G8 H9 I10 J11 K12 L1-12");
    }

    /** Nine points that go to and fro, so that as many squares as can be are runs of their own. */
    private static void longestLine() {
        StreetIndex index = new StreetIndex();
        Expect.add(index, Expect.STATION, Expect.STATION, Expect.STATION, Expect.STATION);
        index.setKind(Expect.STATION, Expect.MOVED);
        Expect.points(index, 0, "A12", "L12", "L10", "A10", "A8", "L8", "L6", "A6", "A4", "L4");
        expect.same("line", Expect.line(index, 0), "station station station station: A4-6 A8-10 A12"
            + " B4 B6 B8 B10 B12 C4 C6 C8 C10 C12 D4 D6 D8 D10 D12 E4 E6 E8 E10 E12 F4 F6 F8 F10 F12"
            + " G4 G6 G8 G10 G12 H4 H6 H8 H10 H12 I4 I6 I8 I10 I12 J4 J6 J8 J10 J12 K4 K6 K8 K10 K12"
            + " L4 L6-8 L10-12");
    }

    private static void wrongArguments() {
        StreetIndex index = new StreetIndex();
        Expect.add(index, Expect.OAK);
        Expect.points(index, 0, "C7");
        expect.same("lineLength(0)", index.lineLength(0), 7);
        expect.same("lineChar(0, 6)", index.lineChar(0, 6), '7');
        int[] wrong = {-1, 7, Integer.MIN_VALUE, Integer.MAX_VALUE};
        for (int k : wrong) {
            expect.thrown("lineChar(0, " + k + ")", Expect.INDEX, () -> index.lineChar(0, k));
            expect.thrown("lineChar(" + k + ", 0)", Expect.INDEX, () -> index.lineChar(k, 0));
            expect.thrown("lineLength(" + k + ")", Expect.INDEX, () -> index.lineLength(k));
        }
        expect.thrown("lineChar(1, 0)", Expect.INDEX, () -> index.lineChar(1, 0));
        expect.thrown("lineLength(1)", Expect.INDEX, () -> index.lineLength(1));
    }
}
