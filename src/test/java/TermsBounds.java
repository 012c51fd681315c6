/** Boundary sentences of the Terms: the plan, the words, the streets with their tracks, and the walks. */
final class TermsBounds {
    private static final Expect expect = Bounds.expect;

    static void run() {
        Bounds.section("What it is");
        Bounds.test("at most 512 calls", "the 512th call changes something", TermsBounds::theLastChange);
        Bounds.test("at most 512 calls", "the 512th call asks for something", TermsBounds::theLastAnswer);
        Bounds.test("at most 512 calls", "the 512th call throws", TermsBounds::theLastRefusal);
        Bounds.section("Terms");
        Bounds.test("the columns 0 to 11 and the rows 0 to 11", "the corners", TermsBounds::corners);
        Bounds.test("the columns are called A to L, the rows 1 to 12", "each of them", TermsBounds::squareNames);
        Bounds.test("Words are numbered 0 to 23", "each of them", TermsBounds::wordNames);
        Bounds.test("0 ordinary, 1 particle, 2 moved", "a word of each kind", TermsBounds::kinds);
        Bounds.test("At first the words 0 to 3 are particles", "words 0 to 3", TermsBounds::particlesAtFirst);
        Bounds.test("all others ordinary", "words 4 to 23", TermsBounds::ordinaryAtFirst);
        Bounds.test("Streets are numbered from 0 on", "the first two", TermsBounds::firstNumbers);
        Bounds.test("there are at most 16", "the 16th and the 17th", TermsBounds::sixteenStreets);
        Bounds.test("A street has a name of 1 to 4 words", "1 and 4", TermsBounds::wordsOfAName);
        Bounds.test("and points, at first none", "a new street", TermsBounds::noPointsAtFirst);
        Bounds.test("at most 10", "the 10th and the 11th point", TermsBounds::tenPoints);
        Bounds.test("Each point but the first", "any square as the first one", TermsBounds::firstPoint);
        Bounds.test("is another square than the one ahead of it", "the same, and an earlier one",
            TermsBounds::anotherSquare);
        Bounds.test("in the same column, the same row, or on the same diagonal", "each square from each corner",
            TermsBounds::straightOn);
        Bounds.test("begins at its first point and goes straight to the next one", "1 and 11 steps",
            TermsBounds::shortestAndLongestPart);
        Bounds.test("(a square can come several times)", "to and fro", TermsBounds::toAndFro);
        Bounds.test("The squares of the street are those of its track, each once", "to and fro", TermsBounds::eachOnce);
        Bounds.test("One step leads from a square of a track to the next square", "the ends of a track",
            TermsBounds::stepsOfATrack);
        Bounds.test("One step leads from a square of a track to the next square", "in each direction",
            TermsBounds::stepsInEachDirection);
        Bounds.test("or to the one ahead of it, unless the street is one-way", "one-way and not",
            TermsBounds::stepsBack);
        Bounds.test("or to the one ahead of it, unless the street is one-way", "a step that comes several times",
            TermsBounds::stepsThatComeAgain);
        Bounds.test("A walk is made of steps along any streets", "streets on the same squares",
            TermsBounds::streetsOnTheSameSquares);
        Bounds.test("A walk is made of steps along any streets", "a step of each of 16 streets",
            TermsBounds::stepsOfSixteenStreets);
        Bounds.test("one can change from street to street in any square that both have", "with and without one",
            TermsBounds::changeOfStreet);
    }

    // ---- 512 calls

    private static void theLastChange() {
        StreetIndex index = Bounds.oak("A1");
        for (int call = 3; call < 511; call += 2) {
            expect.same("addPoint as call " + call, index.addPoint(0, 0, 11), 12);
            expect.same("dropPoint as call " + (call + 1), index.dropPoint(0), 1);
        }
        expect.same("addPoint as call 511", index.addPoint(0, 11, 11), 12);
        expect.same("dropPoint as call 512", index.dropPoint(0), 1);
    }

    private static void theLastAnswer() {
        String line = "mill lane, old: B3-5 C4 D3";
        int first = 512 - line.length() + 1;
        StreetIndex index = askedBefore(first);
        for (int k = 0; k < line.length(); k++) {
            expect.same("lineChar as call " + (first + k), index.lineChar(0, k), line.charAt(k));
        }
        expect.same("lineLength as call 512", askedBefore(512).lineLength(0), line.length());
        expect.same("lineChar as call 512", askedBefore(512).lineChar(0, 25), '3');
        expect.same("streetAt as call 512", askedBefore(512).streetAt(0), 1);
        expect.same("walk as call 512", askedBefore(512).walk(1, 2, 3, 2), 4);
        expect.same("walkByRounds as call 512", askedBefore(512).walkByRounds(1, 2, 3, 2), 4);
        expect.same("reachable as call 512", askedBefore(512).reachable(1, 2), 5);
        expect.same("nearest as call 512", askedBefore(512).nearest(0, 11, 0), 12 * 3 + 2);
    }

    /** A town of which as much has been asked that the next call is the one of this number. */
    private static StreetIndex askedBefore(int call) {
        StreetIndex index = Town.build();
        for (int past = Town.CALLS + 1; past < call; past++) {
            switch (past % 4) {
                case 0 -> index.lineChar(past % 3, 0);
                case 1 -> index.walk(1, 2, 3, 2);
                case 2 -> index.walkByRounds(1, 2, 3, 2);
                default -> index.streetAt(past % 3);
            }
        }
        return index;
    }

    private static void theLastRefusal() {
        StreetIndex index = Bounds.streets(16);
        for (int call = 17; call <= 512; call++) {
            expect.thrown("addStreet as call " + call, Expect.STATE, () -> index.addStreet(1, 0));
        }
    }

    // ---- the plan and the words

    private static void corners() {
        for (String corner : new String[] {"A1", "A12", "L1", "L12"}) {
            StreetIndex index = Bounds.oak(corner);
            expect.same("isOn " + corner, index.isOn(0, Expect.column(corner), Expect.row(corner)), true);
            expect.same("nearest to F6", index.nearest(0, 5, 5), Expect.square(corner));
        }
    }

    private static void squareNames() {
        for (int square = 0; square < 144; square++) {
            StreetIndex index = Bounds.oak();
            index.addPoint(0, square / 12, square % 12);
            String name = "ABCDEFGHIJKL".substring(square / 12, square / 12 + 1) + (square % 12 + 1);
            expect.same("line of square " + square, Expect.line(index, 0), "oak: " + name);
        }
    }

    private static void wordNames() {
        String[] words = {"the", "of", "on", "upon", "old", "new", "upper", "lower", "great", "little", "saint",
            "king", "mill", "oak", "elm", "bridge", "market", "church", "station", "street", "lane", "road", "row",
            "hill"};
        for (int word = 0; word < 24; word++) {
            expect.same("line of word " + word, Bounds.lineOf(word), words[word]);
        }
    }

    private static void kinds() {
        StreetIndex index = new StreetIndex();
        Expect.add(index, Expect.OLD, Expect.OAK);
        Expect.add(index, Expect.OAK);
        Expect.add(index, Expect.OAK, Expect.UPPER);
        kind(index, Expect.ORDINARY, "old oak", 1, 1);
        kind(index, Expect.PARTICLE, "old oak", 0, -1);
        kind(index, Expect.MOVED, "oak, old", 1, -1);
    }

    private static void kind(StreetIndex index, int kind, String line, int toOak, int toOakUpper) {
        index.setKind(Expect.OLD, kind);
        expect.same("line with kind " + kind, Expect.line(index, 0), line);
        expect.same("compared with oak, kind " + kind, index.compareKeys(0, 1), toOak);
        expect.same("compared with oak upper, kind " + kind, index.compareKeys(0, 2), toOakUpper);
    }

    private static void particlesAtFirst() {
        for (int word = 0; word < 4; word++) {
            StreetIndex index = wordAndOak(word);
            expect.same("keys with and without word " + word, index.compareKeys(0, 1), 0);
            expect.same("kind of word " + word, index.setKind(word, Expect.MOVED), Expect.PARTICLE);
        }
    }

    private static void ordinaryAtFirst() {
        for (int word = 4; word < 24; word++) {
            StreetIndex index = wordAndOak(word);
            expect.same("line with word " + word, Expect.line(index, 0), "oak " + Bounds.lineOf(word));
            expect.same("keys with and without word " + word, index.compareKeys(0, 1), 1);
            expect.same("kind of word " + word, index.setKind(word, Expect.MOVED), Expect.ORDINARY);
        }
    }

    private static StreetIndex wordAndOak(int word) {
        StreetIndex index = new StreetIndex();
        Expect.add(index, Expect.OAK, word);
        Expect.add(index, Expect.OAK);
        return index;
    }

    // ---- the streets

    private static void firstNumbers() {
        StreetIndex index = new StreetIndex();
        expect.same("the first number", Expect.add(index, Expect.OAK), 0);
        expect.same("the second number", Expect.add(index, Expect.OAK), 1);
    }

    private static void sixteenStreets() {
        StreetIndex index = Bounds.streets(15);
        expect.same("the 16th street", Expect.add(index, Expect.HILL), 15);
        expect.same("line of the 16th street", Expect.line(index, 15), "hill");
        expect.thrown("the 17th street", Expect.STATE, () -> Expect.add(index, Expect.HILL));
        expect.same("streets", index.streets(), 16);
    }

    private static void wordsOfAName() {
        expect.same("one word", Bounds.lineOf(Expect.OF), "of");
        expect.same("four words", Bounds.lineOf(Expect.STATION, Expect.ON, Expect.THE, Expect.HILL),
            "station on the hill");
    }

    private static void noPointsAtFirst() {
        StreetIndex index = Bounds.streets(16);
        for (int street = 0; street < 16; street++) {
            int number = street;
            expect.same("trackLength of " + street, index.trackLength(street), 0);
            expect.thrown("dropPoint of " + street, Expect.STATE, () -> index.dropPoint(number));
        }
    }

    private static void tenPoints() {
        StreetIndex index = Bounds.oak("A1", "A2", "A1", "A2", "A1", "A2", "A1", "A2", "A1");
        expect.same("the 10th point", index.addPoint(0, 0, 1), 10);
        expect.thrown("the 11th point", Expect.STATE, () -> index.addPoint(0, 0, 0));
        expect.same("trackLength", index.trackLength(0), 10);
    }

    private static void firstPoint() {
        for (int square = 0; square < 144; square++) {
            StreetIndex index = Bounds.oak();
            expect.same("the first point", index.addPoint(0, square / 12, square % 12), 1);
            index.dropPoint(0);
            expect.same("the first point again", index.addPoint(0, (square + 7) % 12, square / 12), 1);
        }
    }

    private static void anotherSquare() {
        StreetIndex index = Bounds.oak("A1");
        expect.thrown("the first point once more", Expect.ARGUMENT, () -> index.addPoint(0, 0, 0));
        Expect.points(index, 0, "A3");
        expect.thrown("the second point once more", Expect.ARGUMENT, () -> index.addPoint(0, 0, 2));
        expect.same("the first point, not the one ahead", index.addPoint(0, 0, 0), 5);
    }

    private static void straightOn() {
        for (String from : new String[] {"A1", "A12", "L1", "L12", "D9"}) {
            for (int square = 0; square < 144; square++) {
                pointBehind(from, square / 12, square % 12);
            }
        }
    }

    private static void pointBehind(String from, int column, int row) {
        StreetIndex index = Bounds.oak(from);
        int columns = Math.abs(Expect.column(from) - column);
        int rows = Math.abs(Expect.row(from) - row);
        String call = "addPoint " + column + ", " + row + " behind " + from;
        if (columns + rows > 0 && (columns == 0 || rows == 0 || columns == rows)) {
            expect.same(call, index.addPoint(0, column, row), 1 + Math.max(columns, rows));
        } else {
            expect.thrown(call, Expect.ARGUMENT, () -> index.addPoint(0, column, row));
        }
    }

    private static void shortestAndLongestPart() {
        StreetIndex index = Bounds.oak("A1");
        expect.same("one point", index.trackLength(0), 1);
        expect.same("one step", index.addPoint(0, 1, 1), 2);
        expect.same("ten steps", index.addPoint(0, 11, 11), 12);
        expect.same("eleven steps", index.addPoint(0, 11, 0), 23);
        expect.same("eleven steps on a diagonal", index.addPoint(0, 0, 11), 34);
        for (int k = 0; k < 12; k++) {
            expect.same("on the diagonal from A1 " + k, index.isOnTrack(0, k, k), true);
            expect.same("on the column L " + k, index.isOnTrack(0, 11, k), true);
            expect.same("on the diagonal from L1 " + k, index.isOnTrack(0, 11 - k, k), true);
        }
        expect.same("squares", index.squares(0), 34);
    }

    private static void toAndFro() {
        StreetIndex index = Bounds.oak("B2", "B3", "B2", "B3");
        expect.same("trackLength", index.trackLength(0), 4);
        expect.same("back over three", index.addPoint(0, 1, 0), 6);
    }

    private static void eachOnce() {
        StreetIndex index = Bounds.oak("B2", "B3", "B2", "B3");
        expect.same("squares", index.squares(0), 2);
        expect.same("line", Expect.line(index, 0), "oak: B2-3");
        expect.same("runs", index.runs(0), 1);
    }

    // ---- the walks

    private static void stepsOfATrack() {
        StreetIndex index = Bounds.oak("A1", "A3", "C3");
        WalksBounds.both(index, "A1", "A2", 1);
        WalksBounds.both(index, "A2", "A3", 1);
        WalksBounds.both(index, "A3", "B3", 1);
        WalksBounds.both(index, "B3", "C3", 1);
        // The neighbours of the ends, and a corner that is cut, are no next squares.
        WalksBounds.both(index, "C3", "D3", -1);
        WalksBounds.both(index, "A3", "A4", -1);
        WalksBounds.both(index, "A2", "B3", 2);
        // Nor is the first square the next one of the last one.
        WalksBounds.both(index, "C3", "A1", 4);
    }

    private static void stepsInEachDirection() {
        for (String next : new String[] {"E5", "E6", "E7", "F5", "F7", "G5", "G6", "G7"}) {
            StreetIndex index = Bounds.oak("F6", next);
            WalksBounds.both(index, "F6", next, 1);
            WalksBounds.both(index, next, "F6", 1);
            index.setOneWay(0, true);
            WalksBounds.both(index, "F6", next, 1);
            WalksBounds.both(index, next, "F6", -1);
        }
    }

    private static void stepsBack() {
        StreetIndex index = Bounds.oak("A1", "A3");
        WalksBounds.both(index, "A2", "A1", 1);
        WalksBounds.both(index, "A3", "A1", 2);
        index.setOneWay(0, true);
        WalksBounds.both(index, "A2", "A1", -1);
        WalksBounds.both(index, "A3", "A2", -1);
        WalksBounds.both(index, "A1", "A3", 2);
        // Another street on the same squares, which is not one-way.
        Expect.add(index, Expect.ELM);
        Expect.points(index, 1, "A1", "A2");
        WalksBounds.both(index, "A2", "A1", 1);
        WalksBounds.both(index, "A3", "A2", -1);
    }

    private static void stepsThatComeAgain() {
        String[][] tracks = {
            {"A1", "A2", "A1"}, {"A2", "A1", "A2"}, {"A1", "A2", "A1", "A2"}, {"A1", "A3", "A1", "A2"}};
        for (String[] track : tracks) {
            StreetIndex index = Bounds.oak(track);
            WalksBounds.both(index, "A1", "A2", 1);
            WalksBounds.both(index, "A2", "A1", 1);
            index.setOneWay(0, true);
            WalksBounds.both(index, "A1", "A2", 1);
            WalksBounds.both(index, "A2", "A1", 1);
        }
    }

    private static void streetsOnTheSameSquares() {
        String[][] others = {{"A1", "A3"}, {"A3", "A1"}, {"A1", "A2", "A3"}};
        for (String[] other : others) {
            StreetIndex index = Bounds.oak("A1", "A3");
            Expect.add(index, Expect.ELM);
            Expect.points(index, 1, other);
            WalksBounds.both(index, "A1", "A3", 2);
            WalksBounds.both(index, "A3", "A1", 2);
            index.setOneWay(0, true);
            WalksBounds.both(index, "A1", "A3", 2);
            WalksBounds.both(index, "A3", "A1", 2);
        }
    }

    private static void stepsOfSixteenStreets() {
        StreetIndex index = WalksBounds.sixteenSteps();
        WalksBounds.both(index, "A1", "G12", 16);
        WalksBounds.both(index, "G12", "A1", -1);
        for (int street = 0; street < 16; street++) {
            index.setOneWay(street, false);
        }
        WalksBounds.both(index, "A1", "G12", 16);
        WalksBounds.both(index, "G12", "A1", 16);
    }

    private static void changeOfStreet() {
        StreetIndex index = Bounds.oak("A1", "C1");
        Expect.add(index, Expect.ELM);
        Expect.points(index, 1, "D1", "D3");
        WalksBounds.both(index, "A1", "D3", -1);
        Expect.points(index, 0, "D1");
        // In the last square of the one, which is the first one of the other.
        WalksBounds.both(index, "A1", "D3", 5);
        index.dropPoint(0);
        Expect.points(index, 0, "E3");
        // In squares that lie within both: D2 is on the diagonal from C1.
        WalksBounds.both(index, "A1", "D3", 4);
    }
}
