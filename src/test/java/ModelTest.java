import java.util.ArrayList;
import java.util.List;
import java.util.TreeSet;

/** All promises: long runs of calls, each answer compared with that of a plain model made with the Java library. */
final class ModelTest {
    private static final Expect expect = new Expect("ModelTest");
    private static final int RUNS = 2500;
    /** Behind these the document leaves the answers free. */
    private static final int CALLS = 512;

    public static void main(String[] args) {
        for (int run = 0; run < RUNS; run++) {
            new Run(run).play();
        }
        expect.end();
    }

    /** One run of calls on a new object; its number makes it the same each time. */
    private static final class Run {
        private final Dice dice;
        private final StreetIndex index = new StreetIndex();
        private final Model model = new Model();
        private final int run;
        private final boolean small;
        private int calls;

        private Run(int run) {
            this.run = run;
            dice = new Dice(run);
            small = run % 3 == 0;
        }

        private void play() {
            while (calls < CALLS) {
                // The first half of a run is mostly building, so that the second half has something to ask for.
                boolean change = dice.below(100) < (calls < CALLS / 2 ? 75 : 15);
                if (change) {
                    change();
                } else {
                    ask();
                }
            }
        }

        private int pick(int below) {
            return dice.below(20) == 0 ? dice.below(below + 4) - 2 : dice.below(below);
        }

        private int street() {
            return pick(Math.max(1, model.names.size()));
        }

        private int place() {
            return pick(12);
        }

        private int name() {
            int name = dice.any();
            if (dice.below(12) != 0) {
                name = 0;
                for (int k = 0; k < 4; k++) {
                    name |= (small ? dice.below(3) * 4 : dice.below(24)) << (8 * k);
                }
            }
            return name;
        }

        private int words() {
            return dice.below(15) == 0 ? dice.below(8) - 2 : 1 + dice.below(4);
        }

        private void change() {
            int street = street();
            int roll = dice.below(20);
            if (roll < 4) {
                int words = words();
                int name = name();
                compare("addStreet(" + words + ", " + name + ")",
                    () -> index.addStreet(words, name), () -> model.addStreet(words, name));
            } else if (roll < 14) {
                addPoint(street);
            } else if (roll < 16) {
                compare("dropPoint(" + street + ")", () -> index.dropPoint(street), () -> model.dropPoint(street));
            } else if (roll == 16) {
                boolean oneWay = dice.below(2) == 0;
                compare("setOneWay(" + street + ", " + oneWay + ")",
                    () -> index.setOneWay(street, oneWay), () -> model.setOneWay(street, oneWay));
            } else if (roll == 17) {
                rename(street);
            } else {
                int word = pick(24);
                int kind = dice.below(10) == 0 ? dice.below(7) - 2 : dice.below(3);
                compare("setKind(" + word + ", " + kind + ")",
                    () -> index.setKind(word, kind), () -> model.setKind(word, kind));
            }
        }

        private void rename(int street) {
            int words = words();
            int name = name();
            compare("rename(" + street + ", " + words + ", " + name + ")", () -> {
                index.rename(street, words, name);
                return 0;
            }, () -> model.rename(street, words, name));
        }

        private void addPoint(int street) {
            int column = place();
            int row = place();
            if (model.has(street) && !model.points.get(street).isEmpty() && dice.below(6) != 0) {
                // Most points go straight on, or there would be hardly any tracks.
                List<Integer> points = model.points.get(street);
                int last = points.get(points.size() - 1);
                int steps = 1 + dice.below(small ? 3 : 11);
                column = last / 12 + steps * (dice.below(3) - 1);
                row = last % 12 + steps * (dice.below(3) - 1);
            }
            int toColumn = column;
            int toRow = row;
            compare("addPoint(" + street + ", " + column + ", " + row + ")",
                () -> index.addPoint(street, toColumn, toRow), () -> model.addPoint(street, toColumn, toRow));
        }

        private void ask() {
            int s = street();
            int c = place();
            int r = place();
            switch (dice.below(12)) {
                case 0 -> compare("streets()", () -> index.streets(), () -> model.names.size());
                case 1 -> compare("streetAt(" + s + ")", () -> index.streetAt(s), () -> model.streetAt(s));
                case 2 -> compare("placeOf(" + s + ")", () -> index.placeOf(s), () -> model.placeOf(s));
                case 3 -> {
                    int other = street();
                    compare("compareKeys(" + s + ", " + other + ")",
                        () -> index.compareKeys(s, other), () -> model.compareKeys(s, other));
                }
                case 4, 5 -> line(s);
                case 6 -> {
                    compare("trackLength(" + s + ")", () -> index.trackLength(s), () -> model.track(s).size());
                    compare("squares(" + s + ")", () -> index.squares(s), () -> model.squares(s).size());
                    compare("runs(" + s + ")", () -> index.runs(s), () -> model.runs(s).size());
                }
                case 7 -> {
                    compare("isOn(" + s + ", " + c + ", " + r + ")",
                        () -> index.isOn(s, c, r), () -> model.isOn(s, c, r));
                    compare("isOnTrack(" + s + ", " + c + ", " + r + ")",
                        () -> index.isOnTrack(s, c, r), () -> model.isOn(s, c, r));
                }
                case 8 -> compare("streetsOf(" + c + ", " + r + ")",
                    () -> index.streetsOf(c, r), () -> model.streetsOf(c, r));
                case 9 -> {
                    compare("distance(" + s + ", " + c + ", " + r + ")",
                        () -> index.distance(s, c, r), () -> model.distance(s, c, r));
                    compare("nearest(" + s + ", " + c + ", " + r + ")",
                        () -> index.nearest(s, c, r), () -> model.nearest(s, c, r));
                }
                default -> walks();
            }
        }

        private void line(int street) {
            compare("lineLength(" + street + ")",
                () -> index.lineLength(street), () -> model.line(street).length());
            int k = model.has(street) ? pick(model.line(street).length()) : 0;
            compare("lineChar(" + street + ", " + k + ")",
                () -> index.lineChar(street, k), () -> model.lineChar(street, k));
            // Whole lines are long: few of them, and only where the calls that are left are enough.
            if (model.has(street) && dice.below(8) == 0 && calls + 1 + model.line(street).length() <= CALLS) {
                calls += 1 + model.line(street).length();
                expect.same("run " + run + ": line of " + street, Expect.line(index, street), model.line(street));
            }
        }

        private void walks() {
            int from = model.someSquare(dice);
            int to = model.someSquare(dice);
            boolean off = dice.below(20) == 0;
            int c = off ? place() : from / 12;
            int r = from % 12;
            int toC = to / 12;
            int toR = off ? place() : to % 12;
            String squares = "(" + c + ", " + r + ", " + toC + ", " + toR + ")";
            compare("walk" + squares, () -> index.walk(c, r, toC, toR), () -> model.walk(c, r, toC, toR));
            compare("walkByRounds" + squares,
                () -> index.walkByRounds(c, r, toC, toR), () -> model.walk(c, r, toC, toR));
            compare("reachable(" + c + ", " + r + ")", () -> index.reachable(c, r), () -> model.reachable(c, r));
        }

        private void compare(String call, Call asked, Call due) {
            calls++;
            if (calls > CALLS) {
                return;
            }
            expect.same("run " + run + ": " + call, answerOf(asked), answerOf(due));
        }

        private static Object answerOf(Call call) {
            try {
                return call.answer();
            } catch (RuntimeException thrown) {
                return thrown.getClass();
            }
        }
    }

    /** Numbers that look as if they were thrown, and are the same for each run of the test. */
    private static final class Dice {
        private long state;

        private Dice(int run) {
            state = 0x9E3779B97F4A7C15L * (run + 1);
        }

        private int any() {
            state = state * 6364136223846793005L + 1442695040888963407L;
            return (int) (state >>> 32);
        }

        private int below(int bound) {
            return Math.floorMod(any(), bound);
        }
    }

    private interface Call {
        Object answer();
    }

    /** The document once more, with texts and lists; nothing is kept but names, points and kinds. */
    private static final class Model {
        private static final String[] WORDS = ("the of on upon old new upper lower great little saint king mill oak elm"
            + " bridge market church station street lane road row hill").split(" ");

        private final List<List<Integer>> names = new ArrayList<>();
        private final List<List<Integer>> points = new ArrayList<>();
        private final List<Boolean> oneWays = new ArrayList<>();
        private final int[] kinds = new int[24];

        private Model() {
            for (int word = 0; word < 4; word++) {
                kinds[word] = 1;
            }
        }

        private boolean has(int street) {
            return street >= 0 && street < names.size();
        }

        private void needStreet(int street) {
            if (!has(street)) {
                throw new IndexOutOfBoundsException();
            }
        }

        private static void needSquare(int column, int row) {
            if (Math.min(column, row) < 0 || Math.max(column, row) > 11) {
                throw new IndexOutOfBoundsException();
            }
        }

        private static List<Integer> wordsOf(int words, int name) {
            List<Integer> list = new ArrayList<>();
            int rest = name;
            for (int k = 0; k < words; k++) {
                list.add(Math.floorMod(rest, 256));
                rest = Math.floorDiv(rest, 256);
            }
            if (words < 1 || words > 4 || list.stream().anyMatch(word -> word > 23)) {
                throw new IllegalArgumentException();
            }
            return list;
        }

        private int addStreet(int words, int name) {
            List<Integer> list = wordsOf(words, name);
            if (names.size() == 16) {
                throw new IllegalStateException();
            }
            names.add(list);
            points.add(new ArrayList<>());
            oneWays.add(false);
            return names.size() - 1;
        }

        private int rename(int street, int words, int name) {
            needStreet(street);
            names.set(street, wordsOf(words, name));
            return 0;
        }

        private int addPoint(int street, int column, int row) {
            needStreet(street);
            needSquare(column, row);
            List<Integer> own = points.get(street);
            int square = 12 * column + row;
            if (!own.isEmpty() && straight(own.get(own.size() - 1), square).size() < 2) {
                throw new IllegalArgumentException();
            }
            if (own.size() == 10) {
                throw new IllegalStateException();
            }
            own.add(square);
            return track(street).size();
        }

        private int dropPoint(int street) {
            needStreet(street);
            if (points.get(street).isEmpty()) {
                throw new IllegalStateException();
            }
            points.get(street).remove(points.get(street).size() - 1);
            return track(street).size();
        }

        private boolean setOneWay(int street, boolean oneWay) {
            needStreet(street);
            return oneWays.set(street, oneWay);
        }

        private int setKind(int word, int kind) {
            if (word < 0 || word > 23) {
                throw new IndexOutOfBoundsException();
            }
            if (kind < 0 || kind > 2) {
                throw new IllegalArgumentException();
            }
            int before = kinds[word];
            kinds[word] = kind;
            return before;
        }

        /** The squares from one to another one, both counted; empty if no straight way leads there. */
        private static List<Integer> straight(int from, int to) {
            for (int columnStep = -1; columnStep <= 1; columnStep++) {
                for (int rowStep = -1; rowStep <= 1; rowStep++) {
                    List<Integer> squares = new ArrayList<>();
                    int column = from / 12;
                    int row = from % 12;
                    while (column >= 0 && column < 12 && row >= 0 && row < 12 && squares.size() < 12) {
                        squares.add(12 * column + row);
                        if (12 * column + row == to) {
                            return squares;
                        }
                        column += columnStep;
                        row += rowStep;
                    }
                }
            }
            return new ArrayList<>();
        }

        private List<Integer> track(int street) {
            needStreet(street);
            List<Integer> own = points.get(street);
            List<Integer> track = new ArrayList<>();
            for (int point = 0; point < own.size(); point++) {
                if (point > 0) {
                    track.remove(track.size() - 1);
                    track.addAll(straight(own.get(point - 1), own.get(point)));
                } else {
                    track.add(own.get(0));
                }
            }
            return track;
        }

        private TreeSet<Integer> squares(int street) {
            return new TreeSet<>(track(street));
        }

        private List<String> runs(int street) {
            List<String> runs = new ArrayList<>();
            TreeSet<Integer> rest = squares(street);
            while (!rest.isEmpty()) {
                int first = rest.pollFirst();
                int last = first;
                while ((last + 1) / 12 == first / 12 && rest.remove(last + 1)) {
                    last++;
                }
                String run = "ABCDEFGHIJKL".charAt(first / 12) + "" + (first % 12 + 1);
                runs.add(last == first ? run : run + "-" + (last % 12 + 1));
            }
            return runs;
        }

        private List<Integer> ofKinds(List<Integer> name, boolean... taken) {
            List<Integer> list = new ArrayList<>();
            for (int word : name) {
                if (taken[kinds[word]]) {
                    list.add(word);
                }
            }
            return list;
        }

        private static String text(List<Integer> words, String between) {
            return String.join(between, words.stream().map(word -> WORDS[word]).toList());
        }

        private List<Integer> key(int street) {
            List<Integer> name = names.get(street);
            List<Integer> key = ofKinds(name, true, false, false);
            key.addAll(ofKinds(name, false, false, true));
            return key.isEmpty() ? name : key;
        }

        // A sign below all letters between the words makes the order of texts the one of the document.
        private int compareKeys(int one, int other) {
            needStreet(one);
            needStreet(other);
            return Integer.signum(text(key(one), "!").compareTo(text(key(other), "!")));
        }

        private List<Integer> order() {
            List<Integer> order = new ArrayList<>();
            for (int street = 0; street < names.size(); street++) {
                order.add(street);
            }
            order.sort((one, other) -> {
                int keys = compareKeys(one, other);
                int byName = text(names.get(one), "!").compareTo(text(names.get(other), "!"));
                return keys != 0 ? keys : byName != 0 ? byName : one - other;
            });
            return order;
        }

        private int streetAt(int place) {
            needStreet(place);
            return order().get(place);
        }

        private int placeOf(int street) {
            needStreet(street);
            return order().indexOf(street);
        }

        private String line(int street) {
            needStreet(street);
            List<Integer> name = names.get(street);
            List<Integer> staying = ofKinds(name, true, true, false);
            List<Integer> moved = ofKinds(name, false, false, true);
            String line = text(staying, " ") + ", " + text(moved, " ");
            if (staying.isEmpty() || moved.isEmpty()) {
                line = text(name, " ");
            }
            return squares(street).isEmpty() ? line : line + ": " + String.join(" ", runs(street));
        }

        private char lineChar(int street, int k) {
            String line = line(street);
            if (k < 0 || k >= line.length()) {
                throw new IndexOutOfBoundsException();
            }
            return line.charAt(k);
        }

        private boolean isOn(int street, int column, int row) {
            needStreet(street);
            needSquare(column, row);
            return track(street).contains(12 * column + row);
        }

        private int streetsOf(int column, int row) {
            needSquare(column, row);
            int bits = 0;
            for (int street = names.size() - 1; street >= 0; street--) {
                bits = 2 * bits + (isOn(street, column, row) ? 1 : 0);
            }
            return bits;
        }

        private static int apart(int square, int column, int row) {
            return Math.max(Math.abs(square / 12 - column), Math.abs(square % 12 - row));
        }

        private int distance(int street, int column, int row) {
            needStreet(street);
            needSquare(column, row);
            return squares(street).stream().mapToInt(square -> apart(square, column, row)).min().orElse(-1);
        }

        private int nearest(int street, int column, int row) {
            int far = distance(street, column, row);
            return squares(street).stream().filter(square -> apart(square, column, row) == far).findFirst().orElse(-1);
        }

        private boolean[][] steps() {
            boolean[][] steps = new boolean[144][144];
            for (int street = 0; street < names.size(); street++) {
                List<Integer> track = track(street);
                for (int k = 1; k < track.size(); k++) {
                    steps[track.get(k - 1)][track.get(k)] = true;
                    steps[track.get(k)][track.get(k - 1)] |= !oneWays.get(street);
                }
            }
            return steps;
        }

        /** For each square the fewest steps from the first one, -1 without a walk: ring by ring. */
        private int[] far(int column, int row) {
            needSquare(column, row);
            boolean[][] steps = steps();
            int[] far = new int[144];
            java.util.Arrays.fill(far, -1);
            far[12 * column + row] = 0;
            for (int ring = 0; ring < 144; ring++) {
                for (int from = 0; from < 144; from++) {
                    for (int to = 0; far[from] == ring && to < 144; to++) {
                        if (steps[from][to] && far[to] < 0) {
                            far[to] = ring + 1;
                        }
                    }
                }
            }
            return far;
        }

        private int walk(int column, int row, int toColumn, int toRow) {
            needSquare(column, row);
            needSquare(toColumn, toRow);
            return far(column, row)[12 * toColumn + toRow];
        }

        private int reachable(int column, int row) {
            int count = 0;
            for (int far : far(column, row)) {
                count += far >= 0 ? 1 : 0;
            }
            return count;
        }

        /** A square of a street if there is one, so that many walks lead somewhere. */
        private int someSquare(Dice dice) {
            int street = names.isEmpty() ? 0 : dice.below(names.size());
            if (names.isEmpty() || track(street).isEmpty() || dice.below(10) == 0) {
                return dice.below(144);
            }
            List<Integer> track = track(street);
            return track.get(dice.below(track.size()));
        }
    }
}
