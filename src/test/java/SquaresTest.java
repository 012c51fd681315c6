/** Promises 17, 19, 20 and 21: isOn, streetsOf, distance, nearest. */
final class SquaresTest {
    private static final Expect expect = new Expect("SquaresTest");

    public static void main(String[] args) {
        isOn();
        streetsOf();
        distance();
        nearestOfSeveral();
        withoutSquares();
        wrongArguments();
        expect.end();
    }

    private static void isOn() {
        StreetIndex index = new StreetIndex();
        Expect.add(index, Expect.OAK);
        Expect.add(index, Expect.ELM);
        expect.same("without squares", index.isOn(0, 0, 0), false);
        Expect.points(index, 0, "A1", "L12", "L1");
        expect.same("A1", index.isOn(0, 0, 0), true);
        expect.same("G7", index.isOn(0, 6, 6), true);
        expect.same("L7", index.isOn(0, 11, 6), true);
        expect.same("L1", index.isOn(0, 11, 0), true);
        expect.same("G8", index.isOn(0, 6, 7), false);
        expect.same("the other street", index.isOn(1, 6, 6), false);
    }

    private static void streetsOf() {
        StreetIndex index = new StreetIndex();
        for (int street = 0; street < 16; street++) {
            Expect.add(index, street);
            if (street % 5 != 1) {
                Expect.points(index, street, "A12", "D12");
            }
        }
        expect.same("streetsOf C12", index.streetsOf(2, 11), 0xFFFF - (1 << 1) - (1 << 6) - (1 << 11));
        expect.same("streetsOf C11", index.streetsOf(2, 10), 0);
        index.dropPoint(15);
        Expect.points(index, 6, "C12", "C11", "C12");
        expect.same("streetsOf C12", index.streetsOf(2, 11), 0x7FFF - (1 << 1) - (1 << 11));
        expect.same("streetsOf C11", index.streetsOf(2, 10), 1 << 6);
        expect.same("streetsOf A12", index.streetsOf(0, 11), 0xFFFF - (1 << 1) - (1 << 6) - (1 << 11));
    }

    private static void distance() {
        StreetIndex index = new StreetIndex();
        Expect.add(index, Expect.MILL);
        Expect.points(index, 0, "C3", "C5");
        expect.same("on the street", index.distance(0, 2, 3), 0);
        expect.same("more columns than rows", index.distance(0, 8, 7), 6);
        expect.same("more rows than columns", index.distance(0, 3, 11), 7);
        expect.same("the other side", index.distance(0, 0, 0), 2);
        expect.same("nearest A1", index.nearest(0, 0, 0), Expect.square("C3"));
        expect.same("nearest D12", index.nearest(0, 3, 11), Expect.square("C5"));
        expect.same("nearest C4", index.nearest(0, 2, 3), Expect.square("C4"));
        Expect.points(index, 0, "C1", "A1");
        expect.same("A1 is on it now", index.distance(0, 0, 0), 0);
        Expect.add(index, Expect.ELM);
        Expect.points(index, 1, "A1");
        expect.same("as far as can be", index.distance(1, 11, 11), 11);
        expect.same("nearest L12", index.nearest(1, 11, 11), 0);
        expect.same("nearest A12", index.nearest(1, 0, 11), 0);
    }

    private static void nearestOfSeveral() {
        StreetIndex index = new StreetIndex();
        Expect.add(index, Expect.ROAD);
        // Whatever way it is drawn, the lowest number counts.
        Expect.points(index, 0, "H8", "H2", "B2", "B8");
        expect.same("three sides are as near", index.nearest(0, 4, 4), Expect.square("B2"));
        expect.same("distance", index.distance(0, 4, 4), 3);
        expect.same("one side is nearer", index.nearest(0, 5, 5), Expect.square("H4"));
        expect.same("a row of the nearest", index.nearest(0, 0, 6), Expect.square("B6"));
        expect.same("the corner", index.nearest(0, 7, 9), Expect.square("H8"));
    }

    private static void withoutSquares() {
        StreetIndex index = new StreetIndex();
        Expect.add(index, Expect.ROAD);
        expect.same("distance", index.distance(0, 0, 0), -1);
        expect.same("nearest", index.nearest(0, 0, 0), -1);
        Expect.points(index, 0, "A1");
        expect.same("nearest", index.nearest(0, 0, 0), 0);
        index.dropPoint(0);
        expect.same("distance", index.distance(0, 0, 0), -1);
        expect.same("nearest", index.nearest(0, 11, 11), -1);
    }

    private static void wrongArguments() {
        StreetIndex index = new StreetIndex();
        Expect.add(index, Expect.OAK);
        int[] wrong = {-1, 1, 16, Integer.MIN_VALUE, Integer.MAX_VALUE};
        for (int street : wrong) {
            expect.thrown("isOn", Expect.INDEX, () -> index.isOn(street, 0, 0));
            expect.thrown("distance", Expect.INDEX, () -> index.distance(street, 0, 0));
            expect.thrown("nearest", Expect.INDEX, () -> index.nearest(street, 0, 0));
        }
        int[] off = {-1, 12, Integer.MIN_VALUE, Integer.MAX_VALUE};
        for (int place : off) {
            expect.thrown("isOn", Expect.INDEX, () -> index.isOn(0, place, 0));
            expect.thrown("isOn", Expect.INDEX, () -> index.isOn(0, 0, place));
            expect.thrown("streetsOf", Expect.INDEX, () -> index.streetsOf(place, 0));
            expect.thrown("streetsOf", Expect.INDEX, () -> index.streetsOf(0, place));
            expect.thrown("distance", Expect.INDEX, () -> index.distance(0, place, 0));
            expect.thrown("distance", Expect.INDEX, () -> index.distance(0, 0, place));
            expect.thrown("nearest", Expect.INDEX, () -> index.nearest(0, place, 0));
            expect.thrown("nearest", Expect.INDEX, () -> index.nearest(0, 0, place));
        }
    }
}
