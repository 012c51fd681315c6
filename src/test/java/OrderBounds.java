/** Boundary sentences of the Terms: the keys and the order of the index. */
final class OrderBounds {
    private static final Expect expect = Bounds.expect;

    static void run() {
        Bounds.section("Terms");
        Bounds.test("The key of a street has the ordinary words of its name in their order", "none, and all",
            OrderBounds::ordinaryWords);
        Bounds.test("and behind them its moved words in their order", "first, last, and alone",
            OrderBounds::movedWords);
        Bounds.test("if it has neither, it has all words of the name in their order", "particles alone",
            OrderBounds::particlesAlone);
        Bounds.test("Keys are compared word by word", "the first word, and the fourth one", OrderBounds::wordByWord);
        Bounds.test("by the letters of the words as in a dictionary", "each word and the next one",
            OrderBounds::dictionary);
        Bounds.test("a key that is the beginning of another one comes ahead of it", "1 to 4 words",
            OrderBounds::beginningOfAKey);
        Bounds.test("Streets with the same key are compared by their names", "the same key by other words",
            OrderBounds::sameKey);
        Bounds.test("word by word, in the same manner", "a name that is the beginning of another one",
            OrderBounds::beginningOfAName);
        Bounds.test("and then by their numbers", "16 streets of one name", OrderBounds::sameName);
        Bounds.test("The index lists all streets in this order", "none, one and 16", OrderBounds::allStreets);
    }

    /** Two streets, and how their keys compare, both ways round. */
    private static void keys(StreetIndex index, int due) {
        expect.same("compareKeys(0, 1)", index.compareKeys(0, 1), due);
        expect.same("compareKeys(1, 0)", index.compareKeys(1, 0), -due);
    }

    private static StreetIndex twoStreets(int[] one, int[] other) {
        StreetIndex index = new StreetIndex();
        Expect.add(index, one);
        Expect.add(index, other);
        return index;
    }

    private static int[] words(int... words) {
        return words;
    }

    private static void ordinaryWords() {
        // Particles count nowhere: ahead, between or behind.
        keys(twoStreets(words(Expect.THE, Expect.MILL, Expect.ON, Expect.ROW), words(Expect.MILL, Expect.ROW)), 0);
        keys(twoStreets(words(Expect.MILL, Expect.OF), words(Expect.UPON, Expect.THE, Expect.MILL)), 0);
        keys(twoStreets(words(Expect.MILL, Expect.ROW), words(Expect.ROW, Expect.MILL)), -1);
        int[] four = words(Expect.MILL, Expect.ROW, Expect.ELM, Expect.HILL);
        keys(twoStreets(four, four), 0);
        keys(twoStreets(four, words(Expect.MILL, Expect.ROW, Expect.ELM, Expect.ON)), 1);
    }

    private static void movedWords() {
        StreetIndex index = twoStreets(words(Expect.GREAT, Expect.NEW, Expect.MILL),
            words(Expect.MILL, Expect.GREAT, Expect.NEW));
        keys(index, -1);
        index.setKind(Expect.GREAT, Expect.MOVED);
        // new mill great, mill new great
        keys(index, 1);
        index.setKind(Expect.NEW, Expect.MOVED);
        keys(index, 0);
        index.rename(1, 3, Expect.name(Expect.NEW, Expect.GREAT, Expect.MILL));
        // mill great new, mill new great
        keys(index, -1);
        index.setKind(Expect.MILL, Expect.MOVED);
        // great new mill, new great mill: all moved, in the order of the name
        keys(index, -1);
        index.setKind(Expect.MILL, Expect.PARTICLE);
        index.rename(1, 2, Expect.name(Expect.GREAT, Expect.NEW));
        // The moved words alone, without the particle.
        keys(index, 0);
    }

    private static void particlesAlone() {
        keys(twoStreets(words(Expect.THE), words(Expect.OF)), 1);
        keys(twoStreets(words(Expect.ON, Expect.THE), words(Expect.ON, Expect.UPON)), -1);
        keys(twoStreets(words(Expect.ON, Expect.THE), words(Expect.THE, Expect.ON)), -1);
        int[] four = words(Expect.OF, Expect.ON, Expect.THE, Expect.UPON);
        keys(twoStreets(four, words(Expect.OF, Expect.ON, Expect.THE)), 1);
        keys(twoStreets(four, four), 0);
        StreetIndex index = twoStreets(words(Expect.UPON, Expect.OAK), words(Expect.OAK));
        index.setKind(Expect.OAK, Expect.PARTICLE);
        // One ordinary word less, and the particles count: upon oak, oak.
        keys(index, 1);
    }

    private static void wordByWord() {
        keys(twoStreets(words(Expect.ELM, Expect.STREET), words(Expect.OAK, Expect.BRIDGE)), -1);
        keys(twoStreets(words(Expect.OAK, Expect.OAK, Expect.OAK, Expect.ELM),
            words(Expect.OAK, Expect.OAK, Expect.OAK, Expect.HILL)), -1);
        keys(twoStreets(words(Expect.OAK, Expect.ROW, Expect.ELM, Expect.ELM),
            words(Expect.OAK, Expect.ROAD, Expect.HILL, Expect.HILL)), 1);
    }

    private static void dictionary() {
        int[] sorted = {Expect.BRIDGE, Expect.CHURCH, Expect.ELM, Expect.GREAT, Expect.HILL, Expect.KING, Expect.LANE,
            Expect.LITTLE, Expect.LOWER, Expect.MARKET, Expect.MILL, Expect.NEW, Expect.OAK, Expect.OF, Expect.OLD,
            Expect.ON, Expect.ROAD, Expect.ROW, Expect.SAINT, Expect.STATION, Expect.STREET, Expect.THE, Expect.UPON,
            Expect.UPPER};
        for (int k = 1; k < 24; k++) {
            StreetIndex index = twoStreets(words(sorted[k - 1]), words(sorted[k]));
            keys(index, -1);
            expect.same("order of words " + sorted[k - 1] + " and " + sorted[k], Expect.order(index), "0 1");
        }
        keys(twoStreets(words(sorted[0]), words(sorted[23])), -1);
    }

    private static void beginningOfAKey() {
        // Behind the shorter key stands what comes ahead of all: it comes ahead all the same.
        keys(twoStreets(words(Expect.OAK), words(Expect.OAK, Expect.BRIDGE)), -1);
        keys(twoStreets(words(Expect.OAK, Expect.OAK, Expect.OAK),
            words(Expect.OAK, Expect.OAK, Expect.OAK, Expect.BRIDGE)), -1);
        keys(twoStreets(words(Expect.OAK), words(Expect.OAK, Expect.OAK, Expect.OAK, Expect.OAK)), -1);
        StreetIndex index = twoStreets(words(Expect.OAK, Expect.BRIDGE), words(Expect.OAK));
        expect.same("order", Expect.order(index), "1 0");
        index.setKind(Expect.BRIDGE, Expect.MOVED);
        expect.same("order with a moved word", Expect.order(index), "1 0");
    }

    private static void sameKey() {
        StreetIndex index = twoStreets(words(Expect.UPON, Expect.ELM), words(Expect.OF, Expect.ELM));
        expect.same("order of upon elm, of elm", Expect.order(index), "1 0");
        index.setKind(Expect.NEW, Expect.MOVED);
        index.rename(0, 2, Expect.name(Expect.OAK, Expect.NEW));
        index.rename(1, 2, Expect.name(Expect.NEW, Expect.OAK));
        keys(index, 0);
        expect.same("order of oak new, new oak", Expect.order(index), "1 0");
        // The names count only behind the keys: the hill, of row.
        index.rename(0, 2, Expect.name(Expect.THE, Expect.HILL));
        index.rename(1, 2, Expect.name(Expect.OF, Expect.ROW));
        expect.same("order of the hill, of row", Expect.order(index), "0 1");
    }

    private static void beginningOfAName() {
        StreetIndex index = twoStreets(words(Expect.ELM, Expect.OF), words(Expect.ELM));
        expect.same("order of elm of, elm", Expect.order(index), "1 0");
        index = twoStreets(words(Expect.ELM, Expect.OF, Expect.OF, Expect.OF), words(Expect.ELM, Expect.OF, Expect.OF));
        expect.same("order of elm of of of, elm of of", Expect.order(index), "1 0");
        index = twoStreets(words(Expect.ELM, Expect.OF, Expect.OF, Expect.UPON),
            words(Expect.ELM, Expect.OF, Expect.OF, Expect.THE));
        expect.same("order by the fourth word", Expect.order(index), "1 0");
        // Not the shorter name comes ahead, but the word that does.
        index = twoStreets(words(Expect.UPON, Expect.ELM), words(Expect.ELM, Expect.OF, Expect.THE));
        expect.same("order of upon elm, elm of the", Expect.order(index), "1 0");
    }

    private static void sameName() {
        StreetIndex index = new StreetIndex();
        for (int street = 0; street < 16; street++) {
            Expect.add(index, Expect.OAK, Expect.LANE);
        }
        expect.same("order", Expect.order(index), "0 1 2 3 4 5 6 7 8 9 10 11 12 13 14 15");
        expect.same("keys of 9 and 10", index.compareKeys(9, 10), 0);
    }

    private static void allStreets() {
        expect.same("order of none", Expect.order(new StreetIndex()), "");
        expect.same("order of one", Expect.order(Bounds.oak()), "0");
        StreetIndex index = Bounds.streets(16);
        // the of on upon old new upper lower great little saint king mill oak elm bridge
        index.setKind(Expect.THE, Expect.MOVED);
        expect.same("order of 16", Expect.order(index), "15 14 8 11 9 7 12 5 13 1 4 2 10 0 3 6");
    }
}
