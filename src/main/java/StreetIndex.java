import java.util.Arrays;

/** A street index for a town plan: streets with names and tracks, their order, lines, squares and walks. */
public final class StreetIndex {
    private static final int SIDE = 12;
    private static final int SQUARES = SIDE * SIDE;
    private static final int MAX_STREETS = 16;
    private static final int MAX_WORDS = 4;
    private static final int MAX_POINTS = 10;
    /** The first point, and at most eleven squares more for each point behind it. */
    private static final int MAX_TRACK = 1 + (MAX_POINTS - 1) * (SIDE - 1);
    private static final int NONE = -1;

    private static final int WORDS = 24;
    private static final int FIRST_PARTICLES = 4;
    private static final int ORDINARY = 0;
    private static final int PARTICLE = 1;
    private static final int MOVED = 2;

    private final int[] kinds = new int[WORDS];
    private final Street[] plan = new Street[MAX_STREETS];
    private int streetCount;
    private final int[] oneKey = new int[MAX_WORDS];
    private final int[] otherKey = new int[MAX_WORDS];
    private final Walks walks = new Walks();

    public StreetIndex() {
        for (int word = 0; word < FIRST_PARTICLES; word++) {
            kinds[word] = PARTICLE;
        }
        // All streets are made here, so that no place of the plan is ever null.
        for (int street = 0; street < MAX_STREETS; street++) {
            plan[street] = new Street();
        }
    }

    // ---- streets and words

    public int addStreet(int words, int name) throws IllegalArgumentException, IllegalStateException {
        checkName(words, name);
        if (streetCount >= MAX_STREETS) {
            throw new IllegalStateException("there are 16 streets");
        }
        plan[streetCount].takeName(words, name);
        streetCount++;
        return streetCount - 1;
    }

    public int addPoint(int street, int column, int row)
            throws IndexOutOfBoundsException, IllegalArgumentException, IllegalStateException {
        checkStreet(street);
        checkSquare(column, row);
        Track track = plan[street].track;
        if (!track.canGoTo(column, row)) {
            throw new IllegalArgumentException("the point is not straight on from the last one");
        }
        if (track.points >= MAX_POINTS) {
            throw new IllegalStateException("the street has 10 points");
        }
        track.goTo(column, row);
        return track.length;
    }

    public int dropPoint(int street) throws IndexOutOfBoundsException, IllegalStateException {
        checkStreet(street);
        Track track = plan[street].track;
        if (track.points == 0) {
            throw new IllegalStateException("the street has no point");
        }
        track.goBack();
        return track.length;
    }

    public boolean setOneWay(int street, boolean oneWay) throws IndexOutOfBoundsException {
        checkStreet(street);
        boolean before = plan[street].oneWay;
        plan[street].oneWay = oneWay;
        return before;
    }

    public void rename(int street, int words, int name) throws IndexOutOfBoundsException, IllegalArgumentException {
        checkStreet(street);
        checkName(words, name);
        plan[street].takeName(words, name);
    }

    public int setKind(int word, int kind) throws IndexOutOfBoundsException, IllegalArgumentException {
        if (word < 0 || word >= WORDS) {
            throw new IndexOutOfBoundsException("no such word");
        }
        if (kind < ORDINARY || kind > MOVED) {
            throw new IllegalArgumentException("no such kind");
        }
        int before = kinds[word];
        kinds[word] = kind;
        return before;
    }

    // ---- the index; nothing from here on changes anything

    public int streets() {
        return streetCount;
    }

    public int streetAt(int place) throws IndexOutOfBoundsException {
        if (place < 0 || place >= streetCount) {
            throw new IndexOutOfBoundsException("not so many streets");
        }
        int street = 0;
        // Each place has its street: when it is none of the others, it is the last one.
        while (street < streetCount - 1 && countAhead(street) != place) {
            street++;
        }
        return street;
    }

    public int placeOf(int street) throws IndexOutOfBoundsException {
        checkStreet(street);
        return countAhead(street);
    }

    public int compareKeys(int one, int other) throws IndexOutOfBoundsException {
        checkStreet(one);
        checkStreet(other);
        return keyOrder(one, other);
    }

    public int lineLength(int street) throws IndexOutOfBoundsException {
        checkStreet(street);
        return lineOf(plan[street]).length();
    }

    public char lineChar(int street, int k) throws IndexOutOfBoundsException {
        checkStreet(street);
        StringBuilder line = lineOf(plan[street]);
        if (k < 0 || k >= line.length()) {
            throw new IndexOutOfBoundsException("no such character");
        }
        return line.charAt(k);
    }

    // ---- squares

    public int trackLength(int street) throws IndexOutOfBoundsException {
        checkStreet(street);
        return plan[street].track.length;
    }

    public int squares(int street) throws IndexOutOfBoundsException {
        checkStreet(street);
        return plan[street].track.countSquares();
    }

    public int runs(int street) throws IndexOutOfBoundsException {
        checkStreet(street);
        return plan[street].track.countRuns();
    }

    public boolean isOn(int street, int column, int row) throws IndexOutOfBoundsException {
        checkStreet(street);
        checkSquare(column, row);
        return plan[street].track.covers(column, row);
    }

    public boolean isOnTrack(int street, int column, int row) throws IndexOutOfBoundsException {
        checkStreet(street);
        checkSquare(column, row);
        return plan[street].track.comesTo(squareOf(column, row));
    }

    public int streetsOf(int column, int row) throws IndexOutOfBoundsException {
        checkSquare(column, row);
        int bits = 0;
        for (int street = 0; street < streetCount; street++) {
            if (plan[street].track.covers(column, row)) {
                bits |= 1 << street;
            }
        }
        return bits;
    }

    public int distance(int street, int column, int row) throws IndexOutOfBoundsException {
        checkStreet(street);
        checkSquare(column, row);
        int square = plan[street].track.nearestTo(column, row);
        return square == NONE ? NONE : apart(square, column, row);
    }

    public int nearest(int street, int column, int row) throws IndexOutOfBoundsException {
        checkStreet(street);
        checkSquare(column, row);
        return plan[street].track.nearestTo(column, row);
    }

    // ---- walks

    public int walk(int column, int row, int toColumn, int toRow) throws IndexOutOfBoundsException {
        checkSquare(column, row);
        checkSquare(toColumn, toRow);
        walks.spread(plan, streetCount, squareOf(column, row));
        return walks.stepsOf(squareOf(toColumn, toRow));
    }

    public int walkByRounds(int column, int row, int toColumn, int toRow) throws IndexOutOfBoundsException {
        checkSquare(column, row);
        checkSquare(toColumn, toRow);
        walks.tellBackwards(plan, streetCount, squareOf(toColumn, toRow));
        return walks.stepsOf(squareOf(column, row));
    }

    public int reachable(int column, int row) throws IndexOutOfBoundsException {
        checkSquare(column, row);
        return walks.spread(plan, streetCount, squareOf(column, row));
    }

    // What is asked of arguments.

    private void checkStreet(int street) {
        if (street < 0 || street >= streetCount) {
            throw new IndexOutOfBoundsException("no such street");
        }
    }

    private static void checkSquare(int column, int row) {
        if (column < 0 || column >= SIDE || row < 0 || row >= SIDE) {
            throw new IndexOutOfBoundsException("no such square");
        }
    }

    private static void checkName(int words, int name) {
        if (words < 1 || words > MAX_WORDS) {
            throw new IllegalArgumentException("a name has 1 to 4 words");
        }
        for (int k = 0; k < words; k++) {
            if (wordOf(name, k) >= WORDS) {
                throw new IllegalArgumentException("no such word");
            }
        }
    }

    private static int wordOf(int name, int k) {
        return (name >>> (8 * k)) & 255;
    }

    private static int squareOf(int column, int row) {
        return SIDE * column + row;
    }

    private static int apart(int square, int column, int row) {
        return Math.max(Math.abs(square / SIDE - column), Math.abs(square % SIDE - row));
    }

    // The order of the index.

    private int countAhead(int street) {
        int ahead = 0;
        for (int other = 0; other < streetCount; other++) {
            if (indexOrder(other, street) < 0) {
                ahead++;
            }
        }
        return ahead;
    }

    private int indexOrder(int one, int other) {
        int order = keyOrder(one, other);
        if (order == 0) {
            order = nameOrder(plan[one], plan[other]);
        }
        return order == 0 ? sign(one - other) : order;
    }

    private int keyOrder(int one, int other) {
        int oneLength = plan[one].putKey(kinds, oneKey);
        int otherLength = plan[other].putKey(kinds, otherKey);
        return wordsOrder(oneKey, oneLength, otherKey, otherLength);
    }

    private static int nameOrder(Street one, Street other) {
        return wordsOrder(one.words, one.wordCount, other.words, other.wordCount);
    }

    private static int wordsOrder(int[] one, int oneLength, int[] other, int otherLength) {
        int shared = Math.min(oneLength, otherLength);
        for (int k = 0; k < shared; k++) {
            int order = lettersOrder(Word.ALL[one[k]].letters, Word.ALL[other[k]].letters);
            if (order != 0) {
                return order;
            }
        }
        return sign(oneLength - otherLength);
    }

    private static int lettersOrder(String one, String other) {
        int shared = Math.min(one.length(), other.length());
        for (int k = 0; k < shared; k++) {
            if (one.charAt(k) != other.charAt(k)) {
                return one.charAt(k) < other.charAt(k) ? -1 : 1;
            }
        }
        return sign(one.length() - other.length());
    }

    private static int sign(int difference) {
        if (difference == 0) {
            return 0;
        }
        return difference < 0 ? -1 : 1;
    }

    // The lines of the index.

    private StringBuilder lineOf(Street street) {
        StringBuilder line = new StringBuilder();
        appendName(line, street);
        if (street.track.length > 0) {
            line.append(':');
            appendRuns(line, street.track);
        }
        return line;
    }

    private void appendName(StringBuilder line, Street street) {
        int moved = street.countMoved(kinds);
        int staying = street.wordCount - moved;
        appendWords(line, street, false);
        if (staying > 0 && moved > 0) {
            line.append(", ");
        }
        appendWords(line, street, true);
    }

    private void appendWords(StringBuilder line, Street street, boolean moved) {
        boolean first = true;
        for (int k = 0; k < street.wordCount; k++) {
            int word = street.words[k];
            if ((kinds[word] == MOVED) == moved) {
                if (!first) {
                    line.append(' ');
                }
                line.append(Word.ALL[word].letters);
                first = false;
            }
        }
    }

    private static void appendRuns(StringBuilder line, Track track) {
        for (int column = 0; column < SIDE; column++) {
            for (int row = 0; row < SIDE; row++) {
                if (track.beginsRun(column, row)) {
                    appendRun(line, column, row, track.endOfRun(column, row));
                }
            }
        }
    }

    private static void appendRun(StringBuilder line, int column, int row, int lastRow) {
        line.append(' ');
        line.append((char) ('A' + column));
        line.append(row + 1);
        if (lastRow > row) {
            line.append('-');
            line.append(lastRow + 1);
        }
    }

    /** The words that names are made of, in the order of their numbers. */
    private enum Word {
        THE("the"), OF("of"), ON("on"), UPON("upon"), OLD("old"), NEW("new"),
        UPPER("upper"), LOWER("lower"), GREAT("great"), LITTLE("little"), SAINT("saint"), KING("king"),
        MILL("mill"), OAK("oak"), ELM("elm"), BRIDGE("bridge"), MARKET("market"), CHURCH("church"),
        STATION("station"), STREET("street"), LANE("lane"), ROAD("road"), ROW("row"), HILL("hill");

        private static final Word[] ALL = values();

        private final String letters;

        Word(String letters) {
            this.letters = letters;
        }
    }

    /** A street: its name, whether it is one-way, and its track. */
    private static final class Street {
        private final int[] words = new int[MAX_WORDS];
        private int wordCount;
        private boolean oneWay;
        private final Track track = new Track();

        /** Takes a name that has been checked. */
        private void takeName(int count, int name) {
            for (int k = 0; k < count; k++) {
                words[k] = wordOf(name, k);
            }
            wordCount = count;
        }

        /** Puts the key into a row of four words, and answers how many words it has. */
        private int putKey(int[] kinds, int[] key) {
            int ordinary = putWordsOf(ORDINARY, kinds, key, 0);
            int both = putWordsOf(MOVED, kinds, key, ordinary);
            // With neither, all words are particles: the key has them all.
            return both > 0 ? both : putWordsOf(PARTICLE, kinds, key, 0);
        }

        private int putWordsOf(int kind, int[] kinds, int[] key, int from) {
            int length = from;
            for (int k = 0; k < wordCount; k++) {
                if (kinds[words[k]] == kind) {
                    key[length] = words[k];
                    length++;
                }
            }
            return length;
        }

        private int countMoved(int[] kinds) {
            int moved = 0;
            for (int k = 0; k < wordCount; k++) {
                if (kinds[words[k]] == MOVED) {
                    moved++;
                }
            }
            return moved;
        }
    }

    /** The points of a street and the squares they lead over; a square is 12 times its column, and its row. */
    private static final class Track {
        private final int[] path = new int[MAX_TRACK];
        private int length;
        /** How long the track was with each point as its last one: what goBack() comes back to. */
        private final int[] lengths = new int[MAX_POINTS];
        private int points;
        /** For each column the rows of the street's squares, as bits. */
        private final int[] rows = new int[SIDE];

        private boolean canGoTo(int column, int row) {
            if (length == 0) {
                return true;
            }
            int last = path[length - 1];
            int columns = Math.abs(column - last / SIDE);
            int rowsAway = Math.abs(row - last % SIDE);
            boolean same = columns == 0 && rowsAway == 0;
            return !same && (columns == 0 || rowsAway == 0 || columns == rowsAway);
        }

        /** Adds a point that canGoTo() allows, while there are fewer than ten. */
        private void goTo(int column, int row) {
            if (length == 0) {
                addSquare(column, row);
            } else {
                goStraight(path[length - 1], column, row);
            }
            lengths[points] = length;
            points++;
        }

        private void goStraight(int from, int column, int row) {
            int fromColumn = from / SIDE;
            int fromRow = from % SIDE;
            int columnStep = sign(column - fromColumn);
            int rowStep = sign(row - fromRow);
            int steps = apart(from, column, row);
            for (int k = 1; k <= steps; k++) {
                addSquare(fromColumn + k * columnStep, fromRow + k * rowStep);
            }
        }

        private void addSquare(int column, int row) {
            path[length] = squareOf(column, row);
            length++;
            rows[column] |= 1 << row;
        }

        /** Removes the last point, of at least one. */
        private void goBack() {
            points--;
            length = points == 0 ? 0 : lengths[points - 1];
            // A square that the removed part came to may be on the rest too: all are marked anew.
            Arrays.fill(rows, 0);
            for (int k = 0; k < length; k++) {
                rows[path[k] / SIDE] |= 1 << (path[k] % SIDE);
            }
        }

        private boolean covers(int column, int row) {
            return ((rows[column] >> row) & 1) == 1;
        }

        private boolean comesTo(int square) {
            for (int k = 0; k < length; k++) {
                if (path[k] == square) {
                    return true;
                }
            }
            return false;
        }

        private int countSquares() {
            int count = 0;
            for (int column = 0; column < SIDE; column++) {
                count += Integer.bitCount(rows[column]);
            }
            return count;
        }

        private int countRuns() {
            int count = 0;
            for (int column = 0; column < SIDE; column++) {
                // What is left are the rows whose row ahead is not on the street: the first ones of the runs.
                count += Integer.bitCount(rows[column] & ~(rows[column] << 1));
            }
            return count;
        }

        private boolean beginsRun(int column, int row) {
            return covers(column, row) && (row == 0 || !covers(column, row - 1));
        }

        private int endOfRun(int column, int row) {
            int last = row;
            while (last + 1 < SIDE && covers(column, last + 1)) {
                last++;
            }
            return last;
        }

        /** The nearest square, the lowest one of several; NONE of a track without squares. */
        private int nearestTo(int column, int row) {
            int best = NONE;
            int least = SIDE;
            for (int square = 0; square < SQUARES; square++) {
                if (covers(square / SIDE, square % SIDE) && apart(square, column, row) < least) {
                    best = square;
                    least = apart(square, column, row);
                }
            }
            return best;
        }
    }

    /** Measures walks over the plan, in rows that are used again by each measuring. */
    private static final class Walks {
        /** More steps than any shortest walk has: it comes to no square twice. */
        private static final int NEVER = SQUARES;
        /** The numbers of neighbouring squares differ by 1, 11, 12 or 13: a difference, and 13, is a bit's number. */
        private static final int MIDDLE = SIDE + 1;

        private final int[] exits = new int[SQUARES];
        private final int[] steps = new int[SQUARES];
        private final int[] reached = new int[SQUARES];

        /** The steps between a square and the one that was measured from, or NONE. */
        private int stepsOf(int square) {
            return steps[square] >= NEVER ? NONE : steps[square];
        }

        /** Measures outwards from a square, and answers how many squares were come to. */
        private int spread(Street[] plan, int streetCount, int start) {
            findExits(plan, streetCount);
            Arrays.fill(steps, NEVER);
            steps[start] = 0;
            reached[0] = start;
            int count = 1;
            for (int k = 0; k < count && k < SQUARES; k++) {
                count = stepFrom(reached[k], count);
            }
            return count;
        }

        private int stepFrom(int square, int countBefore) {
            int count = countBefore;
            for (int bit = 0; bit <= 2 * MIDDLE; bit++) {
                int next = square + bit - MIDDLE;
                // Each square is reached once, so that the row of the reached ones has room for all.
                if (((exits[square] >> bit) & 1) == 1 && isNew(next) && count < SQUARES) {
                    steps[next] = steps[square] + 1;
                    reached[count] = next;
                    count++;
                }
            }
            return count;
        }

        private boolean isNew(int square) {
            return square >= 0 && square < SQUARES && steps[square] == NEVER;
        }

        private void findExits(Street[] plan, int streetCount) {
            Arrays.fill(exits, 0);
            for (int street = 0; street < streetCount; street++) {
                addExits(plan[street].track, plan[street].oneWay);
            }
        }

        private void addExits(Track track, boolean oneWay) {
            for (int k = 1; k < track.length; k++) {
                int from = track.path[k - 1];
                int to = track.path[k];
                exits[from] |= 1 << (to - from + MIDDLE);
                if (!oneWay) {
                    exits[to] |= 1 << (from - to + MIDDLE);
                }
            }
        }

        /** Measures backwards to a square: rounds over all tracks, until nothing becomes less. */
        private void tellBackwards(Street[] plan, int streetCount, int goal) {
            Arrays.fill(steps, NEVER);
            steps[goal] = 0;
            boolean less = true;
            // Each round but the last one settles one square more at least.
            for (int round = 0; round <= SQUARES && less; round++) {
                less = false;
                for (int street = 0; street < streetCount; street++) {
                    if (tellAlong(plan[street].track, plan[street].oneWay)) {
                        less = true;
                    }
                }
            }
        }

        private boolean tellAlong(Track track, boolean oneWay) {
            boolean less = false;
            for (int k = track.length - 1; k > 0; k--) {
                if (tell(track.path[k - 1], track.path[k])) {
                    less = true;
                }
            }
            for (int k = 1; k < track.length && !oneWay; k++) {
                if (tell(track.path[k], track.path[k - 1])) {
                    less = true;
                }
            }
            return less;
        }

        /** Tells a square how far it is by a step to the next one; answers whether that is less than it was. */
        private boolean tell(int square, int next) {
            if (steps[next] + 1 >= steps[square]) {
                return false;
            }
            steps[square] = steps[next] + 1;
            return true;
        }
    }
}
