/** Boundary sentences of the promises 9 to 13: places, keys and lines. */
final class IndexBounds {
    private static final Expect expect = Bounds.expect;

    static void run() {
        streetAt();
        placeOf();
        compareKeys();
        lineLength();
        lineChar();
    }

    private static void streetAt() {
        Bounds.promise(9);
        Bounds.test("`place`: from 0", "the first place and the last one", IndexBounds::firstAndLastStreet);
        Bounds.noSuchStreet("if there are not so many streets", (index, place) -> index.streetAt(place));
    }

    private static void placeOf() {
        Bounds.promise(10);
        Bounds.test("Returns the place, from 0", "the first place and the last one", IndexBounds::firstAndLastPlace);
        Bounds.noSuchStreet("if there is no such street", (index, street) -> index.placeOf(street));
    }

    private static void compareKeys() {
        Bounds.promise(11);
        Bounds.test("`other`: another one, or the same", "the same", IndexBounds::sameStreet);
        Bounds.test("Returns -1 if the key of the one comes first", "at the first word, and at the end",
            IndexBounds::comesFirst);
        Bounds.test("1 if that of the other one does", "at the first word, and at the end", IndexBounds::comesBehind);
        Bounds.test("0 if they are the same", "other names and other numbers", IndexBounds::sameKeys);
        Bounds.noSuchStreet("if there is no such street", (index, street) -> index.compareKeys(street, 0));
        Bounds.noSuchStreet("if there is no such street", (index, street) -> index.compareKeys(0, street));
        Bounds.noSuchStreet("if there is no such street", (index, street) -> index.compareKeys(street, street));
    }

    private static void lineLength() {
        Bounds.promise(12);
        Bounds.test("Returns the number of characters", "from 2 to 270", IndexBounds::shortAndLongLines);
        Bounds.test("Returns the number of characters", "as streets change", IndexBounds::changingLines);
        Bounds.noSuchStreet("if there is no such street", (index, street) -> index.lineLength(street));
    }

    private static void lineChar() {
        Bounds.promise(13);
        Bounds.test("`k`: from 0", "the first character and the last one", IndexBounds::firstAndLastCharacter);
        Bounds.noSuchStreet("if there is no such street", (index, street) -> index.lineChar(street, 0));
        Bounds.test("or its line has no such character", "-1, the length, and beyond", IndexBounds::noSuchCharacter);
    }

    // ---- promises 9 and 10

    private static void firstAndLastStreet() {
        StreetIndex index = Bounds.streets(16);
        expect.same("the first of 16", index.streetAt(0), Expect.BRIDGE);
        expect.same("the last of 16", index.streetAt(15), Expect.UPPER);
        expect.same("the only one", Bounds.oak().streetAt(0), 0);
        index.rename(Expect.UPPER, 1, Expect.BRIDGE);
        expect.same("the first of 16, its name twice", index.streetAt(0), Expect.UPPER);
        expect.same("the second of 16", index.streetAt(1), Expect.BRIDGE);
        expect.same("the last of 16", index.streetAt(15), Expect.UPON);
    }

    private static void firstAndLastPlace() {
        StreetIndex index = Bounds.streets(16);
        expect.same("of bridge", index.placeOf(Expect.BRIDGE), 0);
        expect.same("of upper", index.placeOf(Expect.UPPER), 15);
        expect.same("of the only one", Bounds.oak().placeOf(0), 0);
        for (int street = 0; street < 16; street++) {
            expect.same("streetAt(placeOf(" + street + "))", index.streetAt(index.placeOf(street)), street);
        }
    }

    // ---- promise 11

    private static void sameStreet() {
        StreetIndex index = Bounds.streets(16);
        for (int street = 0; street < 16; street++) {
            expect.same("compareKeys of " + street, index.compareKeys(street, street), 0);
        }
    }

    private static StreetIndex elms() {
        StreetIndex index = new StreetIndex();
        Expect.add(index, Expect.ELM, Expect.LANE);
        Expect.add(index, Expect.ELM);
        Expect.add(index, Expect.BRIDGE, Expect.ROW);
        Expect.add(index, Expect.UPPER, Expect.HILL);
        Expect.add(index, Expect.ELM, Expect.OF, Expect.LANE);
        return index;
    }

    private static void comesFirst() {
        StreetIndex index = elms();
        expect.same("elm, elm lane", index.compareKeys(1, 0), -1);
        expect.same("bridge row, elm", index.compareKeys(2, 1), -1);
        // As far apart as letters can be: no more than -1.
        expect.same("bridge row, upper hill", index.compareKeys(2, 3), -1);
        expect.same("elm lane, upper hill", index.compareKeys(0, 3), -1);
    }

    private static void comesBehind() {
        StreetIndex index = elms();
        expect.same("elm lane, elm", index.compareKeys(0, 1), 1);
        expect.same("elm, bridge row", index.compareKeys(1, 2), 1);
        expect.same("upper hill, bridge row", index.compareKeys(3, 2), 1);
        index.rename(0, 4, Expect.name(Expect.ELM, Expect.ELM, Expect.ELM, Expect.ELM));
        expect.same("elm elm elm elm, elm", index.compareKeys(0, 1), 1);
    }

    private static void sameKeys() {
        StreetIndex index = elms();
        expect.same("elm lane, elm of lane", index.compareKeys(0, 4), 0);
        expect.same("elm of lane, elm lane", index.compareKeys(4, 0), 0);
        index.rename(3, 2, Expect.name(Expect.ELM, Expect.LANE));
        expect.same("elm lane, elm lane", index.compareKeys(0, 3), 0);
        expect.same("elm lane, elm lane", index.compareKeys(3, 0), 0);
        index.setKind(Expect.ELM, Expect.MOVED);
        index.rename(3, 2, Expect.name(Expect.LANE, Expect.ELM));
        expect.same("lane elm, lane elm", index.compareKeys(0, 3), 0);
    }

    // ---- promises 12 and 13

    private static void shortAndLongLines() {
        StreetIndex index = new StreetIndex();
        Expect.add(index, Expect.OF);
        expect.same("of", index.lineLength(0), 2);
        Expect.points(index, 0, "A9");
        expect.same("of: A9", index.lineLength(0), 6);
        Expect.points(index, 0, "A10");
        expect.same("of: A9-10", index.lineLength(0), 9);
        Expect.points(index, 0, "B10");
        expect.same("of: A9-10 B10", index.lineLength(0), 13);
        expect.same("the long line", longLine().lineLength(0), LONG_LINE.length());
    }

    private static final String LONG_LINE = "street market church, station: A4-6 A8-10 A12"
        + " B4 B6 B8 B10 B12 C4 C6 C8 C10 C12 D4 D6 D8 D10 D12 E4 E6 E8 E10 E12 F4 F6 F8 F10 F12"
        + " G4 G6 G8 G10 G12 H4 H6 H8 H10 H12 I4 I6 I8 I10 I12 J4 J6 J8 J10 J12 K4 K6 K8 K10 K12"
        + " L4 L6-8 L10-12";

    private static StreetIndex longLine() {
        StreetIndex index = new StreetIndex();
        Expect.add(index, Expect.STREET, Expect.STATION, Expect.MARKET, Expect.CHURCH);
        index.setKind(Expect.STATION, Expect.MOVED);
        Expect.points(index, 0, "A12", "L12", "L10", "A10", "A8", "L8", "L6", "A6", "A4", "L4");
        return index;
    }

    private static void changingLines() {
        StreetIndex index = Bounds.oak("D4");
        expect.same("oak: D4", index.lineLength(0), 7);
        index.rename(0, 2, Expect.name(Expect.OAK, Expect.LANE));
        expect.same("oak lane: D4", index.lineLength(0), 12);
        index.setKind(Expect.OAK, Expect.MOVED);
        expect.same("lane, oak: D4", index.lineLength(0), 13);
        index.setOneWay(0, true);
        expect.same("lane, oak: D4", index.lineLength(0), 13);
        index.dropPoint(0);
        expect.same("lane, oak", index.lineLength(0), 9);
        index.setKind(Expect.LANE, Expect.MOVED);
        expect.same("oak lane", index.lineLength(0), 8);
    }

    private static void firstAndLastCharacter() {
        StreetIndex index = Bounds.oak();
        expect.same("the first", index.lineChar(0, 0), 'o');
        expect.same("the last", index.lineChar(0, 2), 'k');
        Expect.points(index, 0, "D4");
        expect.same("the first", index.lineChar(0, 0), 'o');
        expect.same("the last", index.lineChar(0, 6), '4');
        expect.same("the long line", Expect.line(longLine(), 0), LONG_LINE);
    }

    private static void noSuchCharacter() {
        noCharacter(Bounds.oak(), 3);
        noCharacter(Bounds.oak("D4"), 7);
        noCharacter(longLine(), LONG_LINE.length());
        StreetIndex index = Bounds.oak("D4");
        index.dropPoint(0);
        noCharacter(index, 3);
    }

    private static void noCharacter(StreetIndex index, int length) {
        expect.same("lineLength", index.lineLength(0), length);
        for (int k : new int[] {-1, length, length + 1, -length, 65536, Integer.MIN_VALUE, Integer.MAX_VALUE}) {
            expect.thrown("lineChar(0, " + k + ")", Expect.INDEX, () -> index.lineChar(0, k));
        }
    }
}
