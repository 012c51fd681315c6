import java.nio.file.Path;

/** Runs the tests of the document's boundary sentences; a wrong answer is told with the promise and the sentence. */
final class Bounds {
    static final Expect expect = new Expect("BoundsTest");

    private static final Document document = new Document(Path.of("../shared/DOC.md"));
    private static final int[] NEVER_A_STREET = {
        -1, -16, 16, 17, 32, 256, 65536, Integer.MIN_VALUE, Integer.MAX_VALUE};
    /** 12 times 357913942 is 8 in an int: a number that only looks like that of a square. */
    private static final int[] OFF_THE_PLAN = {
        -1, 12, -12, 13, 16, 143, 144, 256, 65536, 357913942, Integer.MIN_VALUE, Integer.MAX_VALUE};

    private static String section = "";

    interface StreetCall {
        void on(StreetIndex index, int street);
    }

    interface SquareCall {
        void on(StreetIndex index, int column, int row);
    }

    static void section(String heading) {
        section = heading;
    }

    static void promise(int number) {
        section("Promise " + number);
    }

    /** A test of its own for a sentence of the section, or for one boundary that the sentence names. */
    static void test(String sentence, String boundary, Runnable test) {
        expect.about(section + ", '" + sentence + "' (" + boundary + ")");
        expect.same("the document has the sentence", document.has(section, sentence), true);
        try {
            test.run();
        } catch (RuntimeException thrown) {
            expect.same("a call that throws nothing", thrown, "no exception");
        }
    }

    static void end() {
        expect.about("the document");
        for (String line : document.unquoted()) {
            expect.same("the test of '" + line + "'", "none", "one at least");
        }
        expect.end();
    }

    // ---- tests of arguments that many calls have

    static void noSuchStreet(String sentence, StreetCall call) {
        test(sentence, "the first street, the last one, and those beyond", () -> {
            for (int count : new int[] {0, 1, 2, 15, 16}) {
                for (int street = 0; street < count; street++) {
                    call.on(streetsOfAPoint(count), street);
                }
                refuseStreet(call, count, count);
                for (int street : NEVER_A_STREET) {
                    refuseStreet(call, count, street);
                }
            }
        });
    }

    private static void refuseStreet(StreetCall call, int count, int street) {
        StreetIndex index = streetsOfAPoint(count);
        expect.thrown("street " + street + " of " + count, Expect.INDEX, () -> call.on(index, street));
    }

    static void column(String sentence, SquareCall call) {
        test(sentence, "columns 0 and 11, and those beyond", () -> {
            for (int row = 0; row < 12; row++) {
                call.on(streets(2), 0, row);
                call.on(streets(2), 11, row);
                for (int column : OFF_THE_PLAN) {
                    refuseSquare(call, column, row);
                }
            }
        });
    }

    static void row(String sentence, SquareCall call) {
        test(sentence, "rows 0 and 11, and those beyond", () -> {
            for (int column = 0; column < 12; column++) {
                call.on(streets(2), column, 0);
                call.on(streets(2), column, 11);
                for (int row : OFF_THE_PLAN) {
                    refuseSquare(call, column, row);
                }
            }
        });
    }

    static void noSuchSquare(String sentence, SquareCall call) {
        test(sentence, "each square, and those beyond in both", () -> {
            for (int square = 0; square < 144; square++) {
                call.on(streets(2), square / 12, square % 12);
            }
            for (int column : OFF_THE_PLAN) {
                for (int row : OFF_THE_PLAN) {
                    refuseSquare(call, column, row);
                }
            }
        });
    }

    private static void refuseSquare(SquareCall call, int column, int row) {
        StreetIndex index = streets(2);
        expect.thrown("square " + column + ", " + row, Expect.INDEX, () -> call.on(index, column, row));
    }

    // ---- plans

    /** Streets of one word each and without points. */
    static StreetIndex streets(int count) {
        StreetIndex index = new StreetIndex();
        for (int street = 0; street < count; street++) {
            index.addStreet(1, street);
        }
        return index;
    }

    private static StreetIndex streetsOfAPoint(int count) {
        StreetIndex index = streets(count);
        for (int street = 0; street < count; street++) {
            Expect.points(index, street, "F6");
        }
        return index;
    }

    /** One street of the word "oak" with points. */
    static StreetIndex oak(String... points) {
        StreetIndex index = new StreetIndex();
        Expect.add(index, Expect.OAK);
        Expect.points(index, 0, points);
        return index;
    }

    /** A street with a name alone: its line is the name. */
    static String lineOf(int... words) {
        StreetIndex index = new StreetIndex();
        Expect.add(index, words);
        return Expect.line(index, 0);
    }
}
