/** A small plan of which all can be asked within few calls: to tell that a call has changed nothing. */
final class Town {
    /** How many calls build() makes. */
    static final int CALLS = 18;

    static StreetIndex build() {
        StreetIndex index = new StreetIndex();
        Expect.add(index, Expect.OLD, Expect.MILL, Expect.LANE);
        Expect.add(index, Expect.THE, Expect.ELM);
        Expect.add(index, Expect.OAK);
        index.setKind(Expect.OLD, Expect.MOVED);
        index.setOneWay(0, true);
        Expect.points(index, 0, "B3", "B5", "D3");
        Expect.points(index, 2, "A1", "A12", "A1", "A12", "A1", "A12", "A1", "A12", "A1", "A12");
        return index;
    }

    /** Asks for all that build() has made; in the end the points are dropped, for they are asked in no other way. */
    static void unchanged(Expect expect, String after, StreetIndex index) {
        expect.same("streets " + after, index.streets(), 3);
        expect.same("order " + after, Expect.order(index), "1 0 2");
        expect.same("line of 0 " + after, Expect.line(index, 0), "mill lane, old: B3-5 C4 D3");
        expect.same("line of 1 " + after, Expect.line(index, 1), "the elm");
        expect.same("line of 2 " + after, Expect.line(index, 2), "oak: A1-12");
        expect.same("one-way 0 " + after, index.setOneWay(0, true), true);
        expect.same("one-way 1 " + after, index.setOneWay(1, false), false);
        expect.same("one-way 2 " + after, index.setOneWay(2, false), false);
        for (int word = 0; word < 24; word++) {
            int due = word == Expect.OLD ? Expect.MOVED : word < 4 ? Expect.PARTICLE : Expect.ORDINARY;
            expect.same("kind of " + word + " " + after, index.setKind(word, due), due);
        }
        expect.same("trackLength of 0 " + after, index.trackLength(0), 5);
        expect.same("trackLength of 1 " + after, index.trackLength(1), 0);
        expect.same("trackLength of 2 " + after, index.trackLength(2), 100);
        expect.same("walk back on 0 " + after, index.walk(1, 4, 1, 2), -1);
        droppedPoints(expect, after, index);
    }

    private static void droppedPoints(Expect expect, String after, StreetIndex index) {
        for (int left : new int[] {3, 1, 0}) {
            expect.same("dropPoint of 0 " + after, index.dropPoint(0), left);
        }
        expect.thrown("dropPoint of 1 " + after, Expect.STATE, () -> index.dropPoint(1));
        for (int left = 89; left > 0; left -= 11) {
            expect.same("dropPoint of 2 " + after, index.dropPoint(2), left);
        }
        expect.same("the last dropPoint of 2 " + after, index.dropPoint(2), 0);
    }
}
