/** Boundary sentences of the promises 1 to 8: a new object, and the calls that change streets and words. */
final class StreetsBounds {
    private static final Expect expect = Bounds.expect;
    private static final int[] WRONG_COUNTS = {
        0, 5, -1, 6, 256 + 1, 65536 + 4, Integer.MIN_VALUE, Integer.MIN_VALUE + 1, Integer.MAX_VALUE};
    private static final int[] WRONG_WORDS = {24, 25, 31, 32, 64, 127, 128, 128 + 4, 255};

    /** addStreet and rename take a name in the same way. */
    private interface Naming {
        StreetIndex name(int words, int name);
    }

    static void run() {
        newObject();
        addStreet();
        addPoint();
        dropPoint();
        setOneWay();
        rename();
        setKind();
        streets();
    }

    private static void newObject() {
        Bounds.promise(1);
        Bounds.test("A plan without streets", "streets and places", StreetsBounds::noStreets);
        Bounds.test("A plan without streets", "squares and walks", StreetsBounds::noSquares);
        Bounds.test("A plan without streets", "two objects", StreetsBounds::twoObjects);
    }

    private static void addStreet() {
        Bounds.promise(2);
        Bounds.test("a street that is not one-way", "the first and the 16th", StreetsBounds::newOnesNotOneWay);
        Bounds.test("and has no points", "the first and the 16th", StreetsBounds::newOnesWithoutPoints);
        Bounds.test("how many words its name has, 1 to 4", "1 to 4", () -> fewAndManyWords(StreetsBounds::added));
        Bounds.test("the first one in the lowest byte", "4 different words", () -> bytes(StreetsBounds::added));
        Bounds.test("higher bytes than those of the words do not matter", "all of them",
            () -> higherBytes(StreetsBounds::added));
        Bounds.test("Returns its number", "0 to 15", StreetsBounds::numbers);
        Bounds.test("if words is out of range", "0, 5 and beyond", () -> wrongCounts(StreetsBounds::added));
        Bounds.test("or one of the words is not 0 to 23", "0 and 23 at each place",
            () -> firstAndLastWord(StreetsBounds::added));
        Bounds.test("or one of the words is not 0 to 23", "24 and beyond at each place",
            () -> wrongWords(StreetsBounds::added));
        Bounds.test("Throws `IllegalStateException` if there are 16 streets", "the 16th and the 17th",
            StreetsBounds::the17thStreet);
    }

    private static void addPoint() {
        Bounds.promise(3);
        Bounds.column("`column`: 0 to 11", (index, column, row) -> index.addPoint(1, column, row));
        Bounds.row("`row`: 0 to 11", (index, column, row) -> index.addPoint(1, column, row));
        Bounds.test("Returns how many squares its track has then", "1 to 10 points", StreetsBounds::trackOfPoints);
        Bounds.noSuchStreet("if there is no such street or square", (index, street) -> index.addPoint(street, 5, 6));
        Bounds.noSuchSquare("if there is no such street or square",
            (index, column, row) -> index.addPoint(0, column, row));
        Bounds.test("if there is no such street or square", "straight on off the plan",
            StreetsBounds::pointsOffThePlan);
        Bounds.test("if the point is the same square as the last one", "the first, and a later one",
            StreetsBounds::samePoint);
        Bounds.test("or not in the same column, the same row or on the same diagonal", "one square beside",
            StreetsBounds::pointsBeside);
        Bounds.test("Throws `IllegalStateException` if it has 10 points", "the 10th and the 11th",
            StreetsBounds::the11thPoint);
        Bounds.test("Throws `IllegalStateException` if it has 10 points", "each street has its own 10",
            StreetsBounds::tenPointsEach);
    }

    private static void dropPoint() {
        Bounds.promise(4);
        Bounds.test("Removes the last point of a street", "down to none, and up again", StreetsBounds::downToNone);
        Bounds.test("Removes the last point of a street", "squares that come again", StreetsBounds::squaresThatStay);
        Bounds.test("Returns how many squares its track has then", "10 points to none", StreetsBounds::tenPointsToNone);
        Bounds.noSuchStreet("if there is no such street", (index, street) -> index.dropPoint(street));
        Bounds.test("Throws `IllegalStateException` if it has no point", "a new street, and one without points again",
            StreetsBounds::noPoint);
    }

    private static void setOneWay() {
        Bounds.promise(5);
        Bounds.test("Makes a street one-way, or not", "without points, and the last point dropped",
            StreetsBounds::oneWayWithoutPoints);
        Bounds.test("Returns whether it was", "the same again", StreetsBounds::wasOneWay);
        Bounds.noSuchStreet("if there is no such street", (index, street) -> index.setOneWay(street, true));
    }

    private static void rename() {
        Bounds.promise(6);
        Bounds.test("Renames a street", "its name alone", StreetsBounds::nameAlone);
        Bounds.test("how many words its name has then, 1 to 4", "1 to 4",
            () -> fewAndManyWords(StreetsBounds::renamed));
        Bounds.test("the words, as told at addStreet()", "4 different words", () -> bytes(StreetsBounds::renamed));
        Bounds.test("the words, as told at addStreet()", "higher bytes", () -> higherBytes(StreetsBounds::renamed));
        Bounds.noSuchStreet("if there is no such street", (index, street) -> index.rename(street, 1, Expect.ELM));
        Bounds.test("if words is out of range", "0, 5 and beyond", () -> wrongCounts(StreetsBounds::renamed));
        Bounds.test("or one of the words is not 0 to 23", "0 and 23 at each place",
            () -> firstAndLastWord(StreetsBounds::renamed));
        Bounds.test("or one of the words is not 0 to 23", "24 and beyond at each place",
            () -> wrongWords(StreetsBounds::renamed));
    }

    private static void setKind() {
        Bounds.promise(7);
        Bounds.test("`word`: 0 to 23", "0 and 23, each alone", StreetsBounds::kindOfOneWord);
        Bounds.test("`kind`: 0 to 2", "0 to 2", StreetsBounds::allKinds);
        Bounds.test("Returns the kind before", "the same again", StreetsBounds::kindBefore);
        Bounds.test("if there is no such word", "-1, 24 and beyond", StreetsBounds::noSuchWord);
        Bounds.test("if kind is out of range", "-1, 3 and beyond", StreetsBounds::noSuchKind);
    }

    private static void streets() {
        Bounds.promise(8);
        Bounds.test("Returns how many streets there are", "none to 16", StreetsBounds::countOfStreets);
    }

    // ---- promise 1

    private static void noStreets() {
        StreetIndex index = new StreetIndex();
        expect.same("streets", index.streets(), 0);
        expect.thrown("streetAt", Expect.INDEX, () -> index.streetAt(0));
        expect.thrown("placeOf", Expect.INDEX, () -> index.placeOf(0));
        expect.thrown("compareKeys", Expect.INDEX, () -> index.compareKeys(0, 0));
        expect.thrown("lineLength", Expect.INDEX, () -> index.lineLength(0));
        expect.thrown("trackLength", Expect.INDEX, () -> index.trackLength(0));
        expect.same("the first number", index.addStreet(1, 0), 0);
    }

    private static void noSquares() {
        StreetIndex index = new StreetIndex();
        for (int square = 0; square < 144; square++) {
            expect.same("streetsOf " + square, index.streetsOf(square / 12, square % 12), 0);
            expect.same("reachable " + square, index.reachable(square / 12, square % 12), 1);
        }
        WalksBounds.both(index, "A1", "A2", -1);
        WalksBounds.both(index, "A1", "A1", 0);
    }

    private static void twoObjects() {
        StreetIndex full = Town.build();
        StreetIndex index = new StreetIndex();
        expect.same("streets", index.streets(), 0);
        expect.same("kind of old", index.setKind(Expect.OLD, Expect.PARTICLE), Expect.ORDINARY);
        Expect.add(index, Expect.HILL);
        Expect.points(index, 0, "K12");
        expect.same("track", index.trackLength(0), 1);
        expect.same("walk on the squares of the other one", index.walk(1, 2, 3, 2), -1);
        Town.unchanged(expect, "in the other object", full);
    }

    // ---- promises 2 and 6: names

    private static StreetIndex added(int words, int name) {
        StreetIndex index = new StreetIndex();
        index.addStreet(words, name);
        return index;
    }

    private static StreetIndex renamed(int words, int name) {
        StreetIndex index = new StreetIndex();
        Expect.add(index, Expect.HILL, Expect.HILL, Expect.HILL);
        index.rename(0, words, name);
        return index;
    }

    private static void named(StreetIndex index, String due) {
        expect.same("line", Expect.line(index, 0), due);
    }

    private static void fewAndManyWords(Naming naming) {
        int name = Expect.name(Expect.OAK, Expect.ELM, Expect.ROW, Expect.MILL);
        named(naming.name(1, name), "oak");
        named(naming.name(2, name), "oak elm");
        named(naming.name(3, name), "oak elm row");
        named(naming.name(4, name), "oak elm row mill");
    }

    private static void bytes(Naming naming) {
        named(naming.name(4, 0x17000B13), "street king the hill");
        named(naming.name(4, 0x00000017), "hill the the the");
        named(naming.name(2, 0x0B13), "street king");
    }

    private static void higherBytes(Naming naming) {
        for (int higher : new int[] {0xFF, 0x80, 0x7F, 0x18, 0x01}) {
            named(naming.name(1, Expect.ELM | higher << 8), "elm");
            named(naming.name(1, Expect.ELM | higher << 16), "elm");
            named(naming.name(1, Expect.ELM | higher << 24), "elm");
            named(naming.name(2, Expect.name(Expect.ELM, Expect.ROW) | higher << 16), "elm row");
            named(naming.name(2, Expect.name(Expect.ELM, Expect.ROW) | higher << 24), "elm row");
            named(naming.name(3, Expect.name(Expect.ELM, Expect.ROW, Expect.OLD) | higher << 24), "elm row old");
        }
        // Nor do they matter in the order: the same names stand by their numbers.
        StreetIndex index = naming.name(1, 0xFFFFFF00 | Expect.ELM);
        Expect.add(index, Expect.ELM);
        index.addStreet(1, 0x00000100 | Expect.ELM);
        expect.same("keys", index.compareKeys(0, 1), 0);
        expect.same("order", Expect.order(index), "0 1 2");
    }

    private static void wrongCounts(Naming naming) {
        for (int words : WRONG_COUNTS) {
            expect.thrown(words + " words", Expect.ARGUMENT, () -> naming.name(words, 0));
        }
    }

    private static void firstAndLastWord(Naming naming) {
        named(naming.name(1, 0), "the");
        named(naming.name(1, 23), "hill");
        named(naming.name(4, 0), "the the the the");
        for (int place = 0; place < 4; place++) {
            String[] due = {"the", "the", "the", "the"};
            due[place] = "hill";
            named(naming.name(4, 23 << (8 * place)), String.join(" ", due));
        }
        named(naming.name(4, 0x17171717), "hill hill hill hill");
    }

    private static void wrongWords(Naming naming) {
        for (int words = 1; words <= 4; words++) {
            for (int place = 0; place < words; place++) {
                for (int word : WRONG_WORDS) {
                    int count = words;
                    int name = word << (8 * place);
                    expect.thrown("word " + word + " at place " + place + " of " + words, Expect.ARGUMENT,
                        () -> naming.name(count, name));
                }
            }
        }
    }

    // ---- promise 2

    private static void newOnesNotOneWay() {
        StreetIndex index = new StreetIndex();
        for (int street = 0; street < 16; street++) {
            index.addStreet(1, street);
            expect.same("street " + street + " is one-way", index.setOneWay(street, true), false);
        }
    }

    private static void newOnesWithoutPoints() {
        StreetIndex index = new StreetIndex();
        for (int street = 0; street < 16; street++) {
            index.addStreet(1, street);
            expect.same("track of street " + street, index.trackLength(street), 0);
            expect.same("squares of street " + street, index.squares(street), 0);
            Expect.points(index, street, "A1", "A2");
        }
    }

    private static void numbers() {
        StreetIndex index = new StreetIndex();
        for (int street = 0; street < 16; street++) {
            expect.same("the number", index.addStreet(1, 23 - street), street);
        }
        expect.same("street 0 is the first one", Expect.line(index, 0), "hill");
        expect.same("street 15 is the 16th", Expect.line(index, 15), "great");
    }

    private static void the17thStreet() {
        StreetIndex index = Bounds.streets(15);
        expect.same("the 16th", index.addStreet(1, 15), 15);
        expect.thrown("the 17th", Expect.STATE, () -> index.addStreet(1, 16));
        expect.thrown("the 17th once more", Expect.STATE, () -> index.addStreet(4, 0));
    }

    // ---- promise 3

    private static void trackOfPoints() {
        StreetIndex index = Bounds.oak();
        for (int point = 0; point < 10; point++) {
            expect.same("the point " + point, index.addPoint(0, 11 * (point % 2), 3), 1 + 11 * point);
            expect.same("trackLength", index.trackLength(0), 1 + 11 * point);
        }
        StreetIndex other = Bounds.oak("F6");
        expect.same("one step", other.addPoint(0, 6, 5), 2);
        expect.same("two steps on a diagonal", other.addPoint(0, 8, 3), 4);
    }

    private static void pointsOffThePlan() {
        String[] last = {"L6", "L6", "L6", "A6", "A6", "F12", "F12", "F1", "A1", "L12", "A12", "L1"};
        int[] columns = {12, 12, 12, -1, -1, 5, 6, 5, -1, 12, -1, 12};
        int[] rows = {5, 6, 4, 5, 6, 12, 12, -1, -1, 12, 12, -1};
        for (int k = 0; k < last.length; k++) {
            StreetIndex index = Bounds.oak(last[k]);
            int column = columns[k];
            int row = rows[k];
            expect.thrown("from " + last[k] + " to " + column + ", " + row, Expect.INDEX,
                () -> index.addPoint(0, column, row));
        }
    }

    private static void samePoint() {
        for (String point : new String[] {"A1", "L12", "F6"}) {
            StreetIndex index = Bounds.oak(point);
            int column = Expect.column(point);
            int row = Expect.row(point);
            expect.thrown("the second point", Expect.ARGUMENT, () -> index.addPoint(0, column, row));
            Expect.points(index, 0, "G" + (row + 1));
            expect.thrown("the third point", Expect.ARGUMENT, () -> index.addPoint(0, 6, row));
            expect.same("back to the first", index.addPoint(0, column, row), 1 + 2 * Math.abs(6 - column));
        }
    }

    private static void pointsBeside() {
        // Beside the diagonals and the straight lines, by one square each.
        for (String beside : new String[] {"C2", "B3", "C4", "D3", "G8", "H7", "C10", "B4", "K2", "B11", "B12", "L2"}) {
            StreetIndex index = Bounds.oak("A1");
            int column = Expect.column(beside);
            int row = Expect.row(beside);
            expect.thrown("from A1 to " + beside, Expect.ARGUMENT, () -> index.addPoint(0, column, row));
            StreetIndex mirrored = Bounds.oak("L1");
            expect.thrown("from L1 to the mirrored " + beside, Expect.ARGUMENT,
                () -> mirrored.addPoint(0, 11 - column, row));
        }
        StreetIndex index = Bounds.oak("A1", "B2");
        expect.thrown("straight on from the first point, not from the last", Expect.ARGUMENT,
            () -> index.addPoint(0, 0, 4));
    }

    private static void the11thPoint() {
        StreetIndex index = Bounds.oak("A1", "C1", "C3", "A3", "A5", "C5", "C7", "A7", "A9");
        expect.same("the 10th", index.addPoint(0, 2, 8), 19);
        expect.thrown("the 11th", Expect.STATE, () -> index.addPoint(0, 2, 10));
        expect.thrown("the 11th once more", Expect.STATE, () -> index.addPoint(0, 0, 8));
        index.dropPoint(0);
        expect.same("the 10th again", index.addPoint(0, 0, 11), 20);
        expect.thrown("the 11th again", Expect.STATE, () -> index.addPoint(0, 0, 10));
    }

    private static void tenPointsEach() {
        StreetIndex index = Bounds.streets(16);
        for (int street = 0; street < 16; street++) {
            for (int point = 0; point < 10; point++) {
                expect.same("point " + point + " of " + street, index.addPoint(street, point, street % 12), point + 1);
            }
        }
        for (int street = 0; street < 16; street++) {
            int full = street;
            expect.thrown("the 11th of " + street, Expect.STATE, () -> index.addPoint(full, 10, full % 12));
        }
    }

    // ---- promise 4

    private static void downToNone() {
        StreetIndex index = Bounds.oak("A1", "A4", "D4");
        index.dropPoint(0);
        expect.same("line", Expect.line(index, 0), "oak: A1-4");
        expect.same("straight on from A4 again", index.addPoint(0, 2, 5), 6);
        index.dropPoint(0);
        index.dropPoint(0);
        expect.same("line", Expect.line(index, 0), "oak: A1");
        index.dropPoint(0);
        expect.same("line", Expect.line(index, 0), "oak");
        expect.same("any square comes first again", index.addPoint(0, 8, 5), 1);
        expect.same("line", Expect.line(index, 0), "oak: I6");
    }

    private static void squaresThatStay() {
        StreetIndex index = Bounds.oak("A1", "A4", "A2", "C2");
        expect.same("the point C2 dropped", index.dropPoint(0), 6);
        expect.same("line", Expect.line(index, 0), "oak: A1-4");
        expect.same("the point A2 dropped", index.dropPoint(0), 4);
        expect.same("A3 stays", index.isOn(0, 0, 2), true);
        expect.same("A3 stays on the track", index.isOnTrack(0, 0, 2), true);
        expect.same("B2 does not", index.isOn(0, 1, 1), false);
        Expect.add(index, Expect.ELM);
        Expect.points(index, 1, "A1", "A4");
        index.dropPoint(1);
        expect.same("squares of the other street", index.squares(0), 4);
    }

    private static void tenPointsToNone() {
        StreetIndex index = Bounds.oak("A1", "L1", "L12", "A12", "A2", "K2", "K11", "B11", "B3", "J3");
        for (int left : new int[] {80, 72, 63, 54, 44, 34, 23, 12, 1, 0}) {
            expect.same("dropPoint", index.dropPoint(0), left);
            expect.same("trackLength", index.trackLength(0), left);
            expect.same("squares", index.squares(0), left);
        }
    }

    private static void noPoint() {
        StreetIndex index = Bounds.streets(2);
        expect.thrown("of a new street", Expect.STATE, () -> index.dropPoint(0));
        Expect.points(index, 1, "A1");
        expect.thrown("of a new street beside one with a point", Expect.STATE, () -> index.dropPoint(0));
        Expect.points(index, 0, "A1");
        expect.same("the only point", index.dropPoint(0), 0);
        expect.thrown("of none any more", Expect.STATE, () -> index.dropPoint(0));
        expect.same("of the other street", index.dropPoint(1), 0);
    }

    // ---- promise 5

    private static void oneWayWithoutPoints() {
        StreetIndex index = Bounds.oak();
        index.setOneWay(0, true);
        Expect.points(index, 0, "A1", "A2");
        WalksBounds.both(index, "A1", "A2", 1);
        WalksBounds.both(index, "A2", "A1", -1);
        index.dropPoint(0);
        index.dropPoint(0);
        expect.same("one-way without points", index.setOneWay(0, true), true);
        Expect.points(index, 0, "A2", "A1");
        WalksBounds.both(index, "A1", "A2", -1);
        index.setOneWay(0, false);
        WalksBounds.both(index, "A1", "A2", 1);
    }

    private static void wasOneWay() {
        StreetIndex index = Bounds.streets(16);
        for (int street = 0; street < 16; street += 15) {
            expect.same("not at first", index.setOneWay(street, false), false);
            expect.same("not then", index.setOneWay(street, true), false);
            expect.same("then it was", index.setOneWay(street, true), true);
            expect.same("still", index.setOneWay(street, false), true);
            expect.same("no more", index.setOneWay(street, false), false);
        }
        index.setOneWay(3, true);
        expect.same("the one ahead", index.setOneWay(2, false), false);
        expect.same("the one behind", index.setOneWay(4, false), false);
    }

    // ---- promise 6

    private static void nameAlone() {
        StreetIndex index = Town.build();
        index.rename(0, 4, Expect.name(Expect.THE, Expect.OLD, Expect.UPPER, Expect.ROW));
        expect.same("line", Expect.line(index, 0), "the upper row, old: B3-5 C4 D3");
        expect.same("order", Expect.order(index), "1 2 0");
        index.rename(0, 1, Expect.OLD);
        expect.same("line", Expect.line(index, 0), "old: B3-5 C4 D3");
        expect.same("key of one word", index.compareKeys(0, 2), 1);
        index.rename(0, 3, Expect.name(Expect.OLD, Expect.MILL, Expect.LANE));
        Town.unchanged(expect, "after three times another name", index);
        StreetIndex full = Bounds.streets(16);
        full.rename(15, 1, Expect.ROW);
        expect.same("the 16th of 16 streets", Expect.line(full, 15), "row");
    }

    // ---- promise 7

    private static void kindOfOneWord() {
        for (int word = 0; word < 24; word++) {
            StreetIndex index = new StreetIndex();
            index.setKind(word, Expect.MOVED);
            for (int other = 0; other < 24; other++) {
                int due = other == word ? Expect.MOVED : other < 4 ? Expect.PARTICLE : Expect.ORDINARY;
                expect.same("kind of " + other + " beside " + word, index.setKind(other, 0), due);
            }
        }
    }

    private static void allKinds() {
        for (int word : new int[] {Expect.THE, Expect.HILL}) {
            StreetIndex index = new StreetIndex();
            Expect.add(index, word, Expect.OAK);
            String name = Bounds.lineOf(word);
            index.setKind(word, Expect.MOVED);
            expect.same("moved", Expect.line(index, 0), "oak, " + name);
            index.setKind(word, Expect.PARTICLE);
            expect.same("particle", Expect.line(index, 0), name + " oak");
            Expect.add(index, Expect.OAK);
            expect.same("key with a particle", index.compareKeys(0, 1), 0);
            index.setKind(word, Expect.ORDINARY);
            expect.same("key with an ordinary word", index.compareKeys(0, 1), word == Expect.THE ? 1 : -1);
        }
    }

    private static void kindBefore() {
        for (int word : new int[] {0, 3, 4, 23}) {
            StreetIndex index = new StreetIndex();
            int before = word < 4 ? Expect.PARTICLE : Expect.ORDINARY;
            for (int kind : new int[] {0, 1, 2, 2, 1, 1, 0, 0, 2, 0}) {
                expect.same("setKind(" + word + ", " + kind + ")", index.setKind(word, kind), before);
                before = kind;
            }
        }
    }

    private static void noSuchWord() {
        for (int word : new int[] {-1, 24, 25, -24, 256, 65536, Integer.MIN_VALUE, Integer.MAX_VALUE}) {
            for (int kind = 0; kind < 3; kind++) {
                StreetIndex index = new StreetIndex();
                int any = kind;
                expect.thrown("setKind(" + word + ", " + kind + ")", Expect.INDEX, () -> index.setKind(word, any));
            }
        }
    }

    private static void noSuchKind() {
        for (int kind : new int[] {-1, 3, 4, -2, 256, 65536 + 1, Integer.MIN_VALUE, Integer.MAX_VALUE}) {
            for (int word = 0; word < 24; word++) {
                StreetIndex index = new StreetIndex();
                int any = word;
                expect.thrown("setKind(" + word + ", " + kind + ")", Expect.ARGUMENT, () -> index.setKind(any, kind));
            }
        }
    }

    // ---- promise 8

    private static void countOfStreets() {
        StreetIndex index = new StreetIndex();
        for (int count = 0; count < 16; count++) {
            expect.same("streets", index.streets(), count);
            index.addStreet(1, Expect.OAK);
        }
        expect.same("streets", index.streets(), 16);
        expect.thrown("the 17th", Expect.STATE, () -> index.addStreet(1, Expect.OAK));
        expect.same("streets", index.streets(), 16);
    }
}
