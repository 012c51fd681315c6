/** Counts and prints the answers of a test that are not due. */
final class Expect {
    static final Class<?> INDEX = IndexOutOfBoundsException.class;
    static final Class<?> ARGUMENT = IllegalArgumentException.class;
    static final Class<?> STATE = IllegalStateException.class;

    private final String test;
    private String about = "";
    private int wrong;

    Expect(String test) {
        this.test = test;
    }

    /** What the answers from here on are about: it is told with each that is wrong. */
    void about(String what) {
        about = what + ": ";
    }

    void same(String call, Object got, Object due) {
        if (!got.equals(due)) {
            wrong++;
            System.out.println(test + ": " + about + call + " answered " + got + ", due is " + due);
        }
    }

    /** The exception must be of the very class: a class below the due one is one that the machine threw. */
    void thrown(String call, Class<?> due, Runnable run) {
        Object got = "nothing";
        try {
            run.run();
        } catch (RuntimeException thrown) {
            got = thrown.getClass();
            throwerIsTheClass(call, thrown);
        }
        same(call + " throws", got, due);
    }

    /** What a call of the library threw on its own can be of the due class, but comes from the library. */
    private void throwerIsTheClass(String call, RuntimeException thrown) {
        StackTraceElement[] frames = thrown.getStackTrace();
        String thrower = frames.length == 0 ? "the machine" : frames[0].getClassName();
        same("the class whose code throws in " + call, thrower.split("\\$")[0], "StreetIndex");
    }

    void end() {
        System.out.println(test + (wrong == 0 ? ": all answers are as due" : ": " + wrong + " answers are not as due"));
        if (wrong != 0) {
            System.exit(1);
        }
    }

    // ---- short ways to write runs of calls

    static final int THE = 0, OF = 1, ON = 2, UPON = 3, OLD = 4, NEW = 5, UPPER = 6, LOWER = 7;
    static final int GREAT = 8, LITTLE = 9, SAINT = 10, KING = 11, MILL = 12, OAK = 13, ELM = 14, BRIDGE = 15;
    static final int MARKET = 16, CHURCH = 17, STATION = 18, STREET = 19, LANE = 20, ROAD = 21, ROW = 22, HILL = 23;
    static final int ORDINARY = 0, PARTICLE = 1, MOVED = 2;

    static int name(int... words) {
        int name = 0;
        for (int k = 0; k < words.length; k++) {
            name |= words[k] << (8 * k);
        }
        return name;
    }

    static int add(StreetIndex index, int... words) {
        return index.addStreet(words.length, name(words));
    }

    /** Adds points written as in the index, such as "B3". */
    static void points(StreetIndex index, int street, String... points) {
        for (String point : points) {
            index.addPoint(street, column(point), row(point));
        }
    }

    static int column(String square) {
        return square.charAt(0) - 'A';
    }

    static int row(String square) {
        return Integer.parseInt(square.substring(1)) - 1;
    }

    static int square(String square) {
        return 12 * column(square) + row(square);
    }

    static String line(StreetIndex index, int street) {
        StringBuilder line = new StringBuilder();
        int length = index.lineLength(street);
        for (int k = 0; k < length; k++) {
            line.append(index.lineChar(street, k));
        }
        return line.toString();
    }

    /** The streets by their places. */
    static String order(StreetIndex index) {
        StringBuilder order = new StringBuilder();
        for (int place = 0; place < index.streets(); place++) {
            order.append(place == 0 ? "" : " ").append(index.streetAt(place));
        }
        return order.toString();
    }
}
