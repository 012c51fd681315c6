/** Promises 22, 23 and 24, and what promise 5 does to walks: walk, walkByRounds, reachable, setOneWay. */
final class WalksTest {
    private static final Expect expect = new Expect("WalksTest");

    public static void main(String[] args) {
        withoutStreets();
        alongOneStreet();
        oneWay();
        fromStreetToStreet();
        crossingWithoutASquare();
        shortcuts();
        squaresThatComeAgain();
        farthestWalk();
        overAllStreets(false);
        overAllStreets(true);
        wrongArguments();
        expect.end();
    }

    private static void bothWalks(StreetIndex index, String from, String to, int due) {
        int column = Expect.column(from);
        int row = Expect.row(from);
        int toColumn = Expect.column(to);
        int toRow = Expect.row(to);
        expect.same("walk " + from + " " + to, index.walk(column, row, toColumn, toRow), due);
        expect.same("walkByRounds " + from + " " + to, index.walkByRounds(column, row, toColumn, toRow), due);
    }

    private static void reached(StreetIndex index, String from, int due) {
        expect.same("reachable " + from, index.reachable(Expect.column(from), Expect.row(from)), due);
    }

    private static void withoutStreets() {
        StreetIndex index = new StreetIndex();
        bothWalks(index, "A1", "A1", 0);
        bothWalks(index, "L12", "L12", 0);
        bothWalks(index, "A1", "A2", -1);
        reached(index, "A1", 1);
        Expect.add(index, Expect.OAK);
        Expect.points(index, 0, "A1");
        bothWalks(index, "A1", "A2", -1);
        reached(index, "A1", 1);
    }

    private static void alongOneStreet() {
        StreetIndex index = new StreetIndex();
        Expect.add(index, Expect.OAK);
        Expect.points(index, 0, "B2", "B6", "F2");
        bothWalks(index, "B2", "F2", 8);
        bothWalks(index, "F2", "B2", 8);
        bothWalks(index, "C5", "B5", 2);
        bothWalks(index, "C5", "C5", 0);
        bothWalks(index, "C5", "C4", -1);
        bothWalks(index, "C4", "C5", -1);
        reached(index, "E3", 9);
        reached(index, "E4", 1);
    }

    private static void oneWay() {
        StreetIndex index = new StreetIndex();
        Expect.add(index, Expect.OAK);
        Expect.points(index, 0, "B2", "B6", "F6");
        index.setOneWay(0, true);
        bothWalks(index, "B2", "F6", 8);
        bothWalks(index, "F6", "B2", -1);
        bothWalks(index, "B3", "B2", -1);
        reached(index, "B2", 9);
        reached(index, "C6", 4);
        reached(index, "F6", 1);
        // A track that comes back to its first square is a round.
        Expect.points(index, 0, "F2", "B2");
        bothWalks(index, "B3", "B2", 15);
        reached(index, "F6", 16);
        index.setOneWay(0, false);
        bothWalks(index, "B3", "B2", 1);
        bothWalks(index, "F6", "B2", 8);
    }

    private static void fromStreetToStreet() {
        StreetIndex index = new StreetIndex();
        Expect.add(index, Expect.OAK);
        Expect.add(index, Expect.ELM);
        Expect.add(index, Expect.MILL);
        Expect.points(index, 0, "A1", "A12");
        Expect.points(index, 1, "L6", "A6");
        Expect.points(index, 2, "L12", "L1");
        index.setOneWay(1, true);
        index.setOneWay(2, true);
        bothWalks(index, "L12", "A1", 6 + 11 + 5);
        bothWalks(index, "A1", "L12", -1);
        bothWalks(index, "L5", "A1", -1);
        reached(index, "L12", 34);
        reached(index, "A1", 12);
        reached(index, "L6", 28);
        reached(index, "L4", 4);
        index.setOneWay(1, false);
        bothWalks(index, "A1", "L1", 5 + 11 + 5);
        bothWalks(index, "A1", "L12", -1);
        reached(index, "A1", 28);
    }

    private static void crossingWithoutASquare() {
        StreetIndex index = new StreetIndex();
        Expect.add(index, Expect.OAK);
        Expect.add(index, Expect.ELM);
        Expect.points(index, 0, "C3", "D4");
        Expect.points(index, 1, "C4", "D3");
        bothWalks(index, "C3", "D3", -1);
        bothWalks(index, "C3", "D4", 1);
        reached(index, "C3", 2);
        Expect.points(index, 1, "D4");
        bothWalks(index, "C3", "D3", 2);
        bothWalks(index, "C4", "C3", 3);
        reached(index, "C3", 4);
    }

    private static void shortcuts() {
        StreetIndex index = new StreetIndex();
        Expect.add(index, Expect.OAK);
        Expect.points(index, 0, "A1", "L1", "L12");
        bothWalks(index, "A1", "L12", 22);
        Expect.add(index, Expect.ELM);
        Expect.points(index, 1, "C1", "L10");
        bothWalks(index, "A1", "L12", 2 + 9 + 2);
        Expect.add(index, Expect.MILL);
        Expect.points(index, 2, "L12", "A1");
        index.setOneWay(2, true);
        bothWalks(index, "A1", "L12", 13);
        bothWalks(index, "L12", "A1", 11);
        index.setOneWay(2, false);
        bothWalks(index, "A1", "L12", 11);
        index.dropPoint(2);
        bothWalks(index, "A1", "L12", 13);
        index.dropPoint(0);
        bothWalks(index, "A1", "L12", -1);
        bothWalks(index, "A1", "L10", 11);
    }

    /** One leaves a square that comes several times by each of its ways on. */
    private static void squaresThatComeAgain() {
        StreetIndex index = new StreetIndex();
        Expect.add(index, Expect.OAK);
        index.setOneWay(0, true);
        Expect.points(index, 0, "A5", "J5", "J2", "D8");
        // It crosses itself at G5.
        bothWalks(index, "A5", "D8", 9);
        bothWalks(index, "A5", "J5", 9);
        bothWalks(index, "J5", "H5", 7);
        bothWalks(index, "F6", "D8", 2);
        bothWalks(index, "F6", "J5", -1);
        reached(index, "F6", 3);
        reached(index, "J5", 12);
        // To and fro on one street: both ways, though it is one-way.
        index.rename(0, 1, Expect.ELM);
        Expect.points(index, 0, "J2", "J5");
        bothWalks(index, "J5", "J2", 3);
    }

    /** A street that winds through the plan: walks of more steps than a street has points or the plan sides. */
    private static void farthestWalk() {
        StreetIndex index = new StreetIndex();
        Expect.add(index, Expect.OAK);
        Expect.points(index, 0, "A1", "L1", "L3", "A3", "A5", "L5", "L7", "A7", "A9", "L9");
        bothWalks(index, "A1", "L9", 63);
        bothWalks(index, "L9", "A1", 63);
        Expect.add(index, Expect.ELM);
        Expect.points(index, 1, "L9", "L11", "A11");
        bothWalks(index, "A1", "A11", 76);
        bothWalks(index, "A11", "A1", 76);
        reached(index, "F5", 77);
        index.setOneWay(0, true);
        bothWalks(index, "A1", "A11", 76);
        bothWalks(index, "A11", "A1", -1);
        bothWalks(index, "A11", "L9", 13);
        reached(index, "A11", 14);
        reached(index, "L9", 14);
    }

    /** Sixteen streets of one step each: one order of them is the worst for rounds that go by the streets' numbers. */
    private static void overAllStreets(boolean backwards) {
        StreetIndex index = new StreetIndex();
        String[] path = {"A1", "B2", "C3", "D4", "E5", "F6", "G7", "H8", "I9", "J10", "K11", "L12",
            "K12", "J12", "I12", "H12", "G12"};
        for (int street = 0; street < 16; street++) {
            int part = backwards ? 15 - street : street;
            Expect.add(index, street);
            Expect.points(index, street, path[part], path[part + 1]);
            index.setOneWay(street, true);
        }
        bothWalks(index, "A1", "G12", 16);
        bothWalks(index, "A1", "L12", 11);
        bothWalks(index, "G12", "A1", -1);
        reached(index, "A1", 17);
        reached(index, "L12", 6);
        for (int street = 0; street < 16; street++) {
            index.setOneWay(street, false);
        }
        bothWalks(index, "G12", "A1", 16);
        bothWalks(index, "K12", "J10", 3);
        reached(index, "G12", 17);
    }

    private static void wrongArguments() {
        StreetIndex index = new StreetIndex();
        int[] off = {-1, 12, Integer.MIN_VALUE, Integer.MAX_VALUE};
        for (int place : off) {
            expect.thrown("walk", Expect.INDEX, () -> index.walk(place, 0, 0, 0));
            expect.thrown("walk", Expect.INDEX, () -> index.walk(0, place, 0, 0));
            expect.thrown("walk", Expect.INDEX, () -> index.walk(0, 0, place, 0));
            expect.thrown("walk", Expect.INDEX, () -> index.walk(0, 0, 0, place));
            expect.thrown("walkByRounds", Expect.INDEX, () -> index.walkByRounds(place, 0, 0, 0));
            expect.thrown("walkByRounds", Expect.INDEX, () -> index.walkByRounds(0, place, 0, 0));
            expect.thrown("walkByRounds", Expect.INDEX, () -> index.walkByRounds(0, 0, place, 0));
            expect.thrown("walkByRounds", Expect.INDEX, () -> index.walkByRounds(0, 0, 0, place));
            expect.thrown("the same wrong square", Expect.INDEX, () -> index.walk(place, place, place, place));
            expect.thrown("reachable", Expect.INDEX, () -> index.reachable(place, 0));
            expect.thrown("reachable", Expect.INDEX, () -> index.reachable(0, place));
        }
    }
}
