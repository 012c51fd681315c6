/** Promises 3, 4, 5, 14, 15, 16 and 18: addPoint, dropPoint, setOneWay, trackLength, squares, runs, isOnTrack. */
final class TracksTest {
    private static final Expect expect = new Expect("TracksTest");

    public static void main(String[] args) {
        allDirections();
        pointsThatAreNotStraightOn();
        squaresThatComeAgain();
        tenPoints();
        dropPoint();
        setOneWay();
        runs();
        wrongArguments();
        expect.end();
    }

    private static StreetIndex oneStreet() {
        StreetIndex index = new StreetIndex();
        Expect.add(index, Expect.OAK);
        return index;
    }

    private static void counts(StreetIndex index, int track, int squares, int runs) {
        expect.same("trackLength(0)", index.trackLength(0), track);
        expect.same("squares(0)", index.squares(0), squares);
        expect.same("runs(0)", index.runs(0), runs);
    }

    private static void allDirections() {
        String[] ends = {"F3", "F9", "C6", "I6", "C3", "I9", "C9", "I3"};
        for (String end : ends) {
            StreetIndex index = oneStreet();
            counts(index, 0, 0, 0);
            expect.same("the first point", index.addPoint(0, Expect.column("F6"), Expect.row("F6")), 1);
            expect.same("to " + end, index.addPoint(0, Expect.column(end), Expect.row(end)), 4);
            int columnStep = (Expect.column(end) - Expect.column("F6")) / 3;
            int rowStep = (Expect.row(end) - Expect.row("F6")) / 3;
            for (int square = 0; square < 144; square++) {
                boolean due = false;
                for (int k = 0; k <= 3; k++) {
                    due |= square == 12 * (5 + k * columnStep) + 5 + k * rowStep;
                }
                expect.same("isOnTrack " + square, index.isOnTrack(0, square / 12, square % 12), due);
                expect.same("isOn " + square, index.isOn(0, square / 12, square % 12), due);
            }
            counts(index, 4, 4, columnStep == 0 ? 1 : 4);
        }
    }

    private static void pointsThatAreNotStraightOn() {
        StreetIndex index = oneStreet();
        Expect.points(index, 0, "F6");
        for (int square = 0; square < 144; square++) {
            int column = square / 12;
            int row = square % 12;
            boolean straight = column == 5 || row == 5 || column - row == 0 || column + row == 10;
            if (!straight || square == Expect.square("F6")) {
                expect.thrown("addPoint to " + square, Expect.ARGUMENT, () -> index.addPoint(0, column, row));
            } else {
                int steps = Math.max(Math.abs(column - 5), Math.abs(row - 5));
                expect.same("addPoint to " + square, index.addPoint(0, column, row), 1 + steps);
                expect.same("dropPoint", index.dropPoint(0), 1);
            }
        }
        counts(index, 1, 1, 1);
    }

    private static void squaresThatComeAgain() {
        StreetIndex index = oneStreet();
        Expect.points(index, 0, "A1", "A5", "A2");
        counts(index, 8, 5, 1);
        Expect.points(index, 0, "C4", "A4");
        // A1-5, B3-4, C4
        counts(index, 12, 8, 3);
        expect.same("isOnTrack B4", index.isOnTrack(0, 1, 3), true);
        expect.same("isOnTrack C5", index.isOnTrack(0, 2, 4), false);
    }

    private static void tenPoints() {
        StreetIndex index = oneStreet();
        for (int point = 0; point < 10; point++) {
            int end = point % 2 == 0 ? 0 : 11;
            expect.same("addPoint", index.addPoint(0, end, end), 1 + 11 * point);
        }
        counts(index, 100, 12, 12);
        expect.thrown("the 11th point", Expect.STATE, () -> index.addPoint(0, 0, 0));
        expect.thrown("the 11th as the 10th", Expect.ARGUMENT, () -> index.addPoint(0, 11, 11));
        expect.thrown("the 11th not straight on", Expect.ARGUMENT, () -> index.addPoint(0, 0, 1));
        expect.thrown("the 11th off the plan", Expect.INDEX, () -> index.addPoint(0, 12, 12));
        counts(index, 100, 12, 12);
        expect.same("dropPoint", index.dropPoint(0), 89);
        expect.same("addPoint again", index.addPoint(0, 11, 0), 100);
        // A1, B1-2, and in each column from C on two of one square
        counts(index, 100, 23, 22);
    }

    private static void dropPoint() {
        StreetIndex index = oneStreet();
        Expect.add(index, Expect.ELM);
        Expect.points(index, 1, "A1", "C1");
        Expect.points(index, 0, "A1", "A4", "C2", "A2");
        // A1-4, B2-3, C2
        counts(index, 8, 7, 3);
        expect.same("dropPoint", index.dropPoint(0), 6);
        expect.same("A2 is still on", index.isOn(0, 0, 1), true);
        expect.same("B2 is no more", index.isOn(0, 1, 1), false);
        expect.same("C2 is still on", index.isOnTrack(0, 2, 1), true);
        expect.same("dropPoint", index.dropPoint(0), 4);
        expect.same("C2 is no more", index.isOnTrack(0, 2, 1), false);
        expect.same("dropPoint", index.dropPoint(0), 1);
        counts(index, 1, 1, 1);
        expect.same("dropPoint", index.dropPoint(0), 0);
        counts(index, 0, 0, 0);
        expect.same("A1 is no more", index.isOn(0, 0, 0), false);
        expect.thrown("dropPoint of none", Expect.STATE, () -> index.dropPoint(0));
        expect.same("any square as the first one again", index.addPoint(0, 7, 10), 1);
        expect.same("the other street", index.trackLength(1), 3);
    }

    private static void setOneWay() {
        StreetIndex index = oneStreet();
        Expect.add(index, Expect.ELM);
        expect.same("at first", index.setOneWay(0, true), false);
        expect.same("then", index.setOneWay(0, true), true);
        expect.same("then", index.setOneWay(0, false), true);
        expect.same("then", index.setOneWay(0, true), false);
        expect.same("the other street", index.setOneWay(1, false), false);
    }

    private static void runs() {
        StreetIndex index = oneStreet();
        Expect.points(index, 0, "A12", "B12", "B11");
        counts(index, 3, 3, 2);
        Expect.points(index, 0, "A11", "C11", "C1", "B1");
        // A11-12, B1, B11-12, C1-11
        counts(index, 17, 16, 4);
    }

    private static void wrongArguments() {
        StreetIndex index = oneStreet();
        int[] wrong = {-1, 1, 16, Integer.MIN_VALUE, Integer.MAX_VALUE};
        for (int street : wrong) {
            expect.thrown("addPoint", Expect.INDEX, () -> index.addPoint(street, 0, 0));
            expect.thrown("dropPoint", Expect.INDEX, () -> index.dropPoint(street));
            expect.thrown("setOneWay", Expect.INDEX, () -> index.setOneWay(street, true));
            expect.thrown("trackLength", Expect.INDEX, () -> index.trackLength(street));
            expect.thrown("squares", Expect.INDEX, () -> index.squares(street));
            expect.thrown("runs", Expect.INDEX, () -> index.runs(street));
            expect.thrown("isOnTrack", Expect.INDEX, () -> index.isOnTrack(street, 0, 0));
        }
        int[] off = {-1, 12, Integer.MIN_VALUE, Integer.MAX_VALUE};
        for (int place : off) {
            expect.thrown("addPoint", Expect.INDEX, () -> index.addPoint(0, place, 0));
            expect.thrown("addPoint", Expect.INDEX, () -> index.addPoint(0, 0, place));
            expect.thrown("isOnTrack", Expect.INDEX, () -> index.isOnTrack(0, place, 0));
            expect.thrown("isOnTrack", Expect.INDEX, () -> index.isOnTrack(0, 0, place));
        }
        counts(index, 0, 0, 0);
    }
}
