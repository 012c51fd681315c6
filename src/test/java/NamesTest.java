/** Promises 1, 2, 6, 7 and 8: a new object, addStreet, rename, setKind, streets. */
final class NamesTest {
    private static final Expect expect = new Expect("NamesTest");

    public static void main(String[] args) {
        newObject();
        addStreet();
        addStreetWrongly();
        sixteenStreets();
        rename();
        setKind();
        setKindWrongly();
        expect.end();
    }

    private static void newObject() {
        StreetIndex index = new StreetIndex();
        expect.same("streets()", index.streets(), 0);
        expect.thrown("streetAt(0)", Expect.INDEX, () -> index.streetAt(0));
        expect.same("streetsOf(0, 0)", index.streetsOf(0, 0), 0);
        expect.same("reachable(5, 5)", index.reachable(5, 5), 1);
        for (int word = 0; word < 24; word++) {
            expect.same("kind at first of " + word, index.setKind(word, 0), word < 4 ? 1 : 0);
        }
        StreetIndex other = new StreetIndex();
        Expect.add(other, Expect.OAK);
        expect.same("streets() of another object", index.streets(), 0);
        expect.same("kind in another object", other.setKind(0, 1), 1);
    }

    private static void addStreet() {
        StreetIndex index = new StreetIndex();
        expect.same("first number", Expect.add(index, Expect.OAK), 0);
        expect.same("second number", Expect.add(index, Expect.THE, Expect.OLD, Expect.MILL, Expect.HILL), 1);
        expect.same("higher bytes do not matter", index.addStreet(1, 0xFFFFFF00 | Expect.ELM), 2);
        expect.same("nor with three words", index.addStreet(3, 0x80000000 | Expect.name(4, 5, 23)), 3);
        expect.same("streets()", index.streets(), 4);
        expect.same("line", Expect.line(index, 0), "oak");
        expect.same("line", Expect.line(index, 1), "the old mill hill");
        expect.same("line", Expect.line(index, 2), "elm");
        expect.same("line", Expect.line(index, 3), "old new hill");
        expect.same("not one-way", index.setOneWay(1, false), false);
        expect.same("no points", index.trackLength(1), 0);
    }

    private static void addStreetWrongly() {
        StreetIndex index = new StreetIndex();
        int[] wrongCounts = {0, 5, -1, Integer.MIN_VALUE, Integer.MAX_VALUE};
        for (int words : wrongCounts) {
            expect.thrown("addStreet(" + words + ", 0)", Expect.ARGUMENT, () -> index.addStreet(words, 0));
        }
        for (int words = 1; words <= 4; words++) {
            int count = words;
            int place = 8 * (words - 1);
            expect.thrown("word 24 as word " + count, Expect.ARGUMENT, () -> index.addStreet(count, 24 << place));
            expect.thrown("word 255 as word " + count, Expect.ARGUMENT, () -> index.addStreet(count, 255 << place));
            expect.thrown("word 128 as word " + count, Expect.ARGUMENT, () -> index.addStreet(count, 128 << place));
        }
        expect.thrown("word 24 first of four", Expect.ARGUMENT, () -> index.addStreet(4, 24));
        expect.same("streets()", index.streets(), 0);
    }

    private static void sixteenStreets() {
        StreetIndex index = new StreetIndex();
        for (int street = 0; street < 16; street++) {
            expect.same("number", index.addStreet(1, street), street);
        }
        expect.thrown("addStreet of the 17th", Expect.STATE, () -> index.addStreet(1, 0));
        expect.thrown("a wrong 17th", Expect.ARGUMENT, () -> index.addStreet(0, 0));
        expect.thrown("a wrong word in the 17th", Expect.ARGUMENT, () -> index.addStreet(1, 24));
        expect.same("streets()", index.streets(), 16);
        expect.same("line of the last one", Expect.line(index, 15), "bridge");
    }

    private static void rename() {
        StreetIndex index = new StreetIndex();
        Expect.add(index, Expect.OLD, Expect.KING, Expect.STREET);
        Expect.add(index, Expect.ELM);
        Expect.points(index, 0, "B3", "B5");
        index.setOneWay(0, true);
        index.rename(0, 2, Expect.name(Expect.SAINT, Expect.HILL) | 0xFFFF0000);
        expect.same("line", Expect.line(index, 0), "saint hill: B3-5");
        expect.same("one-way as before", index.setOneWay(0, true), true);
        expect.same("order", Expect.order(index), "1 0");
        index.rename(0, 4, Expect.name(Expect.CHURCH, Expect.ROAD, Expect.ON, Expect.ROW));
        expect.same("line", Expect.line(index, 0), "church road on row: B3-5");
        expect.same("order", Expect.order(index), "0 1");
        expect.same("the other one", Expect.line(index, 1), "elm");

        expect.thrown("rename(-1, ..)", Expect.INDEX, () -> index.rename(-1, 1, 0));
        expect.thrown("rename(2, ..)", Expect.INDEX, () -> index.rename(2, 1, 0));
        expect.thrown("rename(2, 0, ..)", Expect.INDEX, () -> index.rename(2, 0, 24));
        expect.thrown("rename(0, 0, ..)", Expect.ARGUMENT, () -> index.rename(0, 0, 0));
        expect.thrown("rename(0, 5, ..)", Expect.ARGUMENT, () -> index.rename(0, 5, 0));
        expect.thrown("rename, word 24", Expect.ARGUMENT, () -> index.rename(0, 2, Expect.name(1, 24)));
        expect.thrown("rename, word 255", Expect.ARGUMENT, () -> index.rename(0, 4, 0xFF000000));
        expect.same("nothing changed", Expect.line(index, 0), "church road on row: B3-5");
    }

    private static void setKind() {
        StreetIndex index = new StreetIndex();
        expect.same("setKind(0, 2)", index.setKind(Expect.THE, Expect.MOVED), 1);
        expect.same("setKind(0, 0)", index.setKind(Expect.THE, Expect.ORDINARY), 2);
        expect.same("setKind(0, 1)", index.setKind(Expect.THE, Expect.PARTICLE), 0);
        expect.same("setKind(23, 1)", index.setKind(Expect.HILL, Expect.PARTICLE), 0);
        expect.same("setKind(23, 1)", index.setKind(Expect.HILL, Expect.PARTICLE), 1);
        expect.same("the word beside", index.setKind(Expect.ROW, Expect.ORDINARY), 0);
    }

    private static void setKindWrongly() {
        StreetIndex index = new StreetIndex();
        expect.thrown("setKind(24, 0)", Expect.INDEX, () -> index.setKind(24, 0));
        expect.thrown("setKind(-1, 0)", Expect.INDEX, () -> index.setKind(-1, 0));
        expect.thrown("setKind(24, 3)", Expect.INDEX, () -> index.setKind(24, 3));
        expect.thrown("setKind(min, -1)", Expect.INDEX, () -> index.setKind(Integer.MIN_VALUE, -1));
        expect.thrown("setKind(0, 3)", Expect.ARGUMENT, () -> index.setKind(0, 3));
        expect.thrown("setKind(23, -1)", Expect.ARGUMENT, () -> index.setKind(23, -1));
        expect.same("nothing changed", index.setKind(0, 1), 1);
        expect.same("nothing changed", index.setKind(23, 0), 0);
    }
}
