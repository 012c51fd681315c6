/** Promises 9, 10 and 11: streetAt, placeOf, compareKeys. */
final class IndexTest {
    private static final Expect expect = new Expect("IndexTest");

    public static void main(String[] args) {
        byLetters();
        ordinaryAheadOfMoved();
        particlesDoNotCount();
        beginningComesAhead();
        sameKeyByNameAndNumber();
        kindsOfAllWords();
        placesAnswerEachOther();
        wrongArguments();
        expect.end();
    }

    private static void byLetters() {
        StreetIndex index = new StreetIndex();
        // In each pair the first letters are the same, or the numbers run against the letters.
        int[] words = {Expect.STREET, Expect.STATION, Expect.SAINT, Expect.ROW, Expect.ROAD, Expect.MILL,
            Expect.MARKET, Expect.LOWER, Expect.LITTLE, Expect.LANE, Expect.UPPER, Expect.OLD, Expect.OAK,
            Expect.NEW, Expect.CHURCH, Expect.BRIDGE};
        for (int word : words) {
            Expect.add(index, word);
        }
        expect.same("order", Expect.order(index), "15 14 9 8 7 6 5 13 12 11 4 3 2 1 0 10");
        expect.same("station, street", index.compareKeys(1, 0), -1);
        expect.same("street, station", index.compareKeys(0, 1), 1);
        expect.same("street, street", index.compareKeys(0, 0), 0);
        expect.same("bridge, upper", index.compareKeys(15, 10), -1);
    }

    private static void ordinaryAheadOfMoved() {
        StreetIndex index = new StreetIndex();
        index.setKind(Expect.GREAT, Expect.MOVED);
        index.setKind(Expect.NEW, Expect.MOVED);
        Expect.add(index, Expect.GREAT, Expect.KING, Expect.NEW, Expect.STREET); // king street great new
        Expect.add(index, Expect.KING, Expect.STREET); // king street
        Expect.add(index, Expect.NEW, Expect.GREAT, Expect.KING, Expect.STREET); // king street new great
        Expect.add(index, Expect.KING, Expect.ROAD); // king road
        Expect.add(index, Expect.GREAT, Expect.NEW); // great new
        expect.same("order", Expect.order(index), "4 3 1 0 2");
        expect.same("moved words in their order", index.compareKeys(0, 2), -1);
        index.setKind(Expect.GREAT, Expect.ORDINARY);
        // great king street new, king street, great king street new, king road, great new
        expect.same("order with another kind", Expect.order(index), "0 2 4 3 1");
        expect.same("keys the same", index.compareKeys(0, 2), 0);
    }

    private static void particlesDoNotCount() {
        StreetIndex index = new StreetIndex();
        Expect.add(index, Expect.ROAD, Expect.ON, Expect.THE, Expect.HILL); // road hill
        Expect.add(index, Expect.ROAD, Expect.HILL); // road hill
        Expect.add(index, Expect.THE, Expect.ELM); // elm
        Expect.add(index, Expect.OF, Expect.THE); // of the: there are no others
        Expect.add(index, Expect.ROAD, Expect.OF, Expect.HILL); // road hill
        expect.same("keys the same", index.compareKeys(0, 1), 0);
        expect.same("elm, of the", index.compareKeys(2, 3), -1);
        expect.same("of the, road hill", index.compareKeys(3, 0), -1);
        // Of the same key, the names: road hill, road of hill, road on the hill.
        expect.same("order", Expect.order(index), "2 3 1 4 0");
        index.setKind(Expect.ON, Expect.ORDINARY);
        expect.same("road on hill", index.compareKeys(0, 1), 1);
        index.setKind(Expect.THE, Expect.MOVED);
        // the moved alone: of the key of the street 3 only "the" is left
        expect.same("the, road on hill the", index.compareKeys(3, 0), 1);
    }

    private static void beginningComesAhead() {
        StreetIndex index = new StreetIndex();
        Expect.add(index, Expect.OAK, Expect.CHURCH, Expect.BRIDGE);
        Expect.add(index, Expect.OAK, Expect.CHURCH);
        Expect.add(index, Expect.OAK);
        Expect.add(index, Expect.OAK, Expect.CHURCH, Expect.BRIDGE, Expect.BRIDGE);
        expect.same("order", Expect.order(index), "2 1 0 3");
        expect.same("oak, oak church", index.compareKeys(2, 1), -1);
        expect.same("oak church bridge bridge, oak", index.compareKeys(3, 2), 1);
    }

    private static void sameKeyByNameAndNumber() {
        StreetIndex index = new StreetIndex();
        Expect.add(index, Expect.UPON, Expect.ELM);
        Expect.add(index, Expect.ELM, Expect.UPON);
        Expect.add(index, Expect.ELM);
        Expect.add(index, Expect.ELM, Expect.OF);
        Expect.add(index, Expect.ELM);
        Expect.add(index, Expect.UPON, Expect.ELM);
        for (int street = 1; street < 6; street++) {
            expect.same("keys the same", index.compareKeys(0, street), 0);
        }
        expect.same("order", Expect.order(index), "2 4 3 1 0 5");
        // A name's moved words stand where they are in it, and not behind.
        index.setKind(Expect.NEW, Expect.MOVED);
        index.rename(0, 2, Expect.name(Expect.OAK, Expect.NEW));
        index.rename(1, 2, Expect.name(Expect.NEW, Expect.OAK));
        expect.same("keys the same", index.compareKeys(0, 1), 0);
        expect.same("new oak ahead of oak new", index.placeOf(1) < index.placeOf(0), true);
    }

    private static void kindsOfAllWords() {
        StreetIndex index = new StreetIndex();
        Expect.add(index, Expect.OLD, Expect.MILL);
        Expect.add(index, Expect.MILL);
        index.setKind(Expect.OLD, Expect.MOVED);
        expect.same("mill old, mill", index.compareKeys(0, 1), 1);
        index.setKind(Expect.MILL, Expect.MOVED);
        expect.same("old mill all moved, mill", index.compareKeys(0, 1), 1);
        index.setKind(Expect.MILL, Expect.PARTICLE);
        expect.same("old alone, mill alone", index.compareKeys(0, 1), 1);
        index.setKind(Expect.OLD, Expect.PARTICLE);
        expect.same("old mill all particles, mill", index.compareKeys(0, 1), 1);
        index.setKind(Expect.MILL, Expect.ORDINARY);
        expect.same("mill, mill", index.compareKeys(0, 1), 0);
        expect.same("order", Expect.order(index), "1 0");
    }

    private static void placesAnswerEachOther() {
        StreetIndex index = new StreetIndex();
        for (int street = 0; street < 16; street++) {
            Expect.add(index, (street * 7 + 3) % 24, (street * 5) % 24);
        }
        for (int place = 0; place < 16; place++) {
            expect.same("placeOf(streetAt(" + place + "))", index.placeOf(index.streetAt(place)), place);
        }
    }

    private static void wrongArguments() {
        StreetIndex index = new StreetIndex();
        Expect.add(index, Expect.OAK);
        Expect.add(index, Expect.ELM);
        int[] wrong = {-1, 2, 16, Integer.MIN_VALUE, Integer.MAX_VALUE};
        for (int street : wrong) {
            expect.thrown("streetAt(" + street + ")", Expect.INDEX, () -> index.streetAt(street));
            expect.thrown("placeOf(" + street + ")", Expect.INDEX, () -> index.placeOf(street));
            expect.thrown("compareKeys(" + street + ", 0)", Expect.INDEX, () -> index.compareKeys(street, 0));
            expect.thrown("compareKeys(0, " + street + ")", Expect.INDEX, () -> index.compareKeys(0, street));
            expect.thrown("compareKeys twice wrong", Expect.INDEX, () -> index.compareKeys(street, street));
        }
    }
}
