/** Boundary sentences of the Terms: what holds for calls that throw, and for calls that only ask. */
final class RefusedBounds {
    private static final Expect expect = Bounds.expect;
    private static final int FOUR_ELMS = Expect.name(Expect.ELM, Expect.ELM, Expect.ELM, Expect.ELM);

    private interface Call {
        void on(StreetIndex index);
    }

    static void run() {
        Bounds.section("Terms");
        Bounds.test("A call that throws an exception changes nothing", "addStreet", RefusedBounds::addStreet);
        Bounds.test("A call that throws an exception changes nothing", "the 17th street", RefusedBounds::street17);
        Bounds.test("A call that throws an exception changes nothing", "addPoint", RefusedBounds::addPoint);
        Bounds.test("A call that throws an exception changes nothing", "dropPoint", RefusedBounds::dropPoint);
        Bounds.test("A call that throws an exception changes nothing", "setOneWay", RefusedBounds::setOneWay);
        Bounds.test("A call that throws an exception changes nothing", "rename", RefusedBounds::rename);
        Bounds.test("A call that throws an exception changes nothing", "setKind", RefusedBounds::setKind);
        Bounds.test("A call that throws an exception changes nothing", "calls that ask", RefusedBounds::refusedAsking);
        Bounds.test("the one that is named first in the throws clause is thrown", "addStreet",
            RefusedBounds::firstOfAddStreet);
        Bounds.test("the one that is named first in the throws clause is thrown", "addPoint, no street or square",
            RefusedBounds::firstOfAddPoint);
        Bounds.test("the one that is named first in the throws clause is thrown", "addPoint, wrong square as the 11th",
            RefusedBounds::secondOfAddPoint);
        Bounds.test("the one that is named first in the throws clause is thrown", "rename",
            RefusedBounds::firstOfRename);
        Bounds.test("the one that is named first in the throws clause is thrown", "setKind",
            RefusedBounds::firstOfSetKind);
        Bounds.test("the index; nothing from here on changes anything", "calls of the index",
            RefusedBounds::askingTheIndex);
        Bounds.test("the index; nothing from here on changes anything", "calls of squares",
            RefusedBounds::askingForSquares);
        Bounds.test("the index; nothing from here on changes anything", "calls of walks",
            RefusedBounds::askingForWalks);
    }

    private static void refused(String call, Class<?> due, Call refused) {
        StreetIndex index = Town.build();
        expect.thrown(call, due, () -> refused.on(index));
        Town.unchanged(expect, "after " + call, index);
    }

    private static void addStreet() {
        refused("addStreet of no words", Expect.ARGUMENT, index -> index.addStreet(0, FOUR_ELMS));
        refused("addStreet of 5 words", Expect.ARGUMENT, index -> index.addStreet(5, FOUR_ELMS));
        refused("addStreet, first word 24", Expect.ARGUMENT, index -> index.addStreet(2, Expect.name(24, 4)));
        refused("addStreet, last word 24", Expect.ARGUMENT, index -> index.addStreet(4, Expect.name(4, 4, 4, 24)));
        StreetIndex index = Town.build();
        expect.thrown("addStreet of no words", Expect.ARGUMENT, () -> index.addStreet(0, 0));
        expect.same("the next number", Expect.add(index, Expect.ELM), 3);
        expect.same("its line", Expect.line(index, 3), "elm");
    }

    private static void street17() {
        StreetIndex index = Bounds.streets(16);
        expect.thrown("addStreet of the 17th", Expect.STATE, () -> index.addStreet(4, FOUR_ELMS));
        expect.same("streets", index.streets(), 16);
        // the of on upon old new upper lower great little saint king mill oak elm bridge
        expect.same("order", Expect.order(index), "15 14 8 11 9 7 12 5 13 1 4 2 10 0 3 6");
        expect.same("the first line", Expect.line(index, 0), "the");
        expect.same("the last line", Expect.line(index, 15), "bridge");
        expect.thrown("street 16", Expect.INDEX, () -> index.placeOf(16));
    }

    private static void addPoint() {
        refused("addPoint on street 3", Expect.INDEX, index -> index.addPoint(3, 3, 3));
        refused("addPoint on street -1", Expect.INDEX, index -> index.addPoint(-1, 3, 3));
        refused("addPoint off the columns", Expect.INDEX, index -> index.addPoint(1, 12, 0));
        refused("addPoint off the rows", Expect.INDEX, index -> index.addPoint(0, 3, -1));
        refused("addPoint of the same square", Expect.ARGUMENT, index -> index.addPoint(0, 3, 2));
        refused("addPoint not straight on", Expect.ARGUMENT, index -> index.addPoint(0, 4, 4));
        refused("addPoint of the 11th", Expect.STATE, index -> index.addPoint(2, 0, 0));
        refused("addPoint of the 11th on a new square", Expect.STATE, index -> index.addPoint(2, 11, 11));
    }

    private static void dropPoint() {
        refused("dropPoint on street 3", Expect.INDEX, index -> index.dropPoint(3));
        refused("dropPoint on street -1", Expect.INDEX, index -> index.dropPoint(-1));
        refused("dropPoint of none", Expect.STATE, index -> index.dropPoint(1));
        StreetIndex index = Bounds.oak();
        expect.thrown("dropPoint of none", Expect.STATE, () -> index.dropPoint(0));
        expect.same("the first point", index.addPoint(0, 4, 4), 1);
        expect.same("the second point", index.addPoint(0, 4, 5), 2);
        expect.same("line", Expect.line(index, 0), "oak: E5-6");
    }

    private static void setOneWay() {
        refused("setOneWay on street 3", Expect.INDEX, index -> index.setOneWay(3, true));
        refused("setOneWay on street -1", Expect.INDEX, index -> index.setOneWay(-1, false));
        StreetIndex index = Bounds.streets(1);
        expect.thrown("setOneWay ahead of addStreet", Expect.INDEX, () -> index.setOneWay(1, true));
        Expect.add(index, Expect.OAK);
        expect.same("a new street is not one-way", index.setOneWay(1, false), false);
    }

    private static void rename() {
        refused("rename of street 3", Expect.INDEX, index -> index.rename(3, 1, Expect.ELM));
        refused("rename of street -1", Expect.INDEX, index -> index.rename(-1, 1, Expect.ELM));
        refused("rename to no words", Expect.ARGUMENT, index -> index.rename(0, 0, FOUR_ELMS));
        refused("rename to 5 words", Expect.ARGUMENT, index -> index.rename(0, 5, FOUR_ELMS));
        refused("rename, first word 24", Expect.ARGUMENT, index -> index.rename(0, 2, Expect.name(24, 4)));
        refused("rename, last word 24", Expect.ARGUMENT, index -> index.rename(0, 4, Expect.name(4, 5, 6, 24)));
    }

    private static void setKind() {
        refused("setKind of word 24", Expect.INDEX, index -> index.setKind(24, 2));
        refused("setKind of word -1", Expect.INDEX, index -> index.setKind(-1, 2));
        refused("setKind to 3", Expect.ARGUMENT, index -> index.setKind(0, 3));
        refused("setKind to -1", Expect.ARGUMENT, index -> index.setKind(Expect.OLD, -1));
    }

    private static void refusedAsking() {
        refused("streetAt", Expect.INDEX, index -> index.streetAt(3));
        refused("placeOf", Expect.INDEX, index -> index.placeOf(3));
        refused("compareKeys", Expect.INDEX, index -> index.compareKeys(0, 3));
        refused("lineLength", Expect.INDEX, index -> index.lineLength(3));
        refused("lineChar of no street", Expect.INDEX, index -> index.lineChar(3, 0));
        refused("lineChar of no character", Expect.INDEX, index -> index.lineChar(0, 26));
        refused("trackLength", Expect.INDEX, index -> index.trackLength(3));
        refused("squares", Expect.INDEX, index -> index.squares(3));
        refused("runs", Expect.INDEX, index -> index.runs(3));
        refused("isOn", Expect.INDEX, index -> index.isOn(0, 12, 0));
        refused("isOnTrack", Expect.INDEX, index -> index.isOnTrack(0, 12, 0));
        refused("streetsOf", Expect.INDEX, index -> index.streetsOf(12, 0));
        refused("distance", Expect.INDEX, index -> index.distance(0, 12, 0));
        refused("nearest", Expect.INDEX, index -> index.nearest(0, 12, 0));
        refused("walk", Expect.INDEX, index -> index.walk(1, 2, 12, 0));
        refused("walkByRounds", Expect.INDEX, index -> index.walkByRounds(1, 2, 12, 0));
        refused("reachable", Expect.INDEX, index -> index.reachable(12, 0));
    }

    private static void firstOfAddStreet() {
        StreetIndex index = Bounds.streets(16);
        expect.thrown("no words as the 17th", Expect.ARGUMENT, () -> index.addStreet(0, 4));
        expect.thrown("5 words as the 17th", Expect.ARGUMENT, () -> index.addStreet(5, 4));
        expect.thrown("word 24 in the 17th", Expect.ARGUMENT, () -> index.addStreet(1, 24));
        expect.thrown("a fourth word 24 in the 17th", Expect.ARGUMENT, () -> index.addStreet(4, 24 << 24));
    }

    private static void firstOfAddPoint() {
        StreetIndex index = Town.build();
        // Behind A12: these squares are not straight on, and the point would be the 11th.
        expect.thrown("off the columns as the 11th", Expect.INDEX, () -> index.addPoint(2, 12, 3));
        expect.thrown("off the rows as the 11th", Expect.INDEX, () -> index.addPoint(2, 5, -1));
        expect.thrown("straight on off the plan as the 11th", Expect.INDEX, () -> index.addPoint(2, 0, 12));
        expect.thrown("not straight on off the plan", Expect.INDEX, () -> index.addPoint(0, 12, 4));
        expect.thrown("no street and no square", Expect.INDEX, () -> index.addPoint(3, 12, 12));
    }

    private static void secondOfAddPoint() {
        StreetIndex index = Town.build();
        expect.thrown("the same square as the 11th", Expect.ARGUMENT, () -> index.addPoint(2, 0, 11));
        expect.thrown("not straight on as the 11th", Expect.ARGUMENT, () -> index.addPoint(2, 1, 9));
    }

    private static void firstOfRename() {
        StreetIndex index = Town.build();
        expect.thrown("no street, no words", Expect.INDEX, () -> index.rename(3, 0, 4));
        expect.thrown("no street, 5 words", Expect.INDEX, () -> index.rename(-1, 5, 4));
        expect.thrown("no street, word 24", Expect.INDEX, () -> index.rename(3, 1, 24));
    }

    private static void firstOfSetKind() {
        StreetIndex index = new StreetIndex();
        expect.thrown("word 24, kind 3", Expect.INDEX, () -> index.setKind(24, 3));
        expect.thrown("word -1, kind -1", Expect.INDEX, () -> index.setKind(-1, -1));
        expect.thrown("word 24, kind -1", Expect.INDEX, () -> index.setKind(24, -1));
    }

    private static void asked(String calls, Call asking) {
        StreetIndex index = Town.build();
        asking.on(index);
        asking.on(index);
        Town.unchanged(expect, "after " + calls, index);
    }

    private static void askingTheIndex() {
        asked("streets", StreetIndex::streets);
        asked("streetAt", index -> index.streetAt(2));
        asked("placeOf", index -> index.placeOf(2));
        asked("compareKeys", index -> index.compareKeys(0, 2));
        asked("lineLength", index -> index.lineLength(0));
        asked("lineChar", index -> index.lineChar(0, 25));
    }

    private static void askingForSquares() {
        asked("trackLength", index -> index.trackLength(0));
        asked("squares", index -> index.squares(0));
        asked("runs", index -> index.runs(0));
        asked("isOn", index -> index.isOn(0, 1, 2));
        asked("isOnTrack", index -> index.isOnTrack(0, 1, 2));
        asked("streetsOf", index -> index.streetsOf(1, 2));
        asked("distance", index -> index.distance(0, 11, 11));
        asked("nearest", index -> index.nearest(0, 11, 11));
    }

    private static void askingForWalks() {
        asked("walk", index -> index.walk(1, 2, 3, 2));
        asked("walkByRounds", index -> index.walkByRounds(1, 2, 3, 2));
        asked("reachable", index -> index.reachable(1, 2));
    }
}
