import java.lang.reflect.Constructor;
import java.lang.reflect.Field;
import java.lang.reflect.Method;
import java.lang.reflect.Modifier;
import java.util.TreeSet;

/** The public face as the document writes it, and nothing else that can be seen from outside. */
final class FaceTest {
    private static final Expect expect = new Expect("FaceTest");

    private static final String FACE = """
        public int addStreet(int, int) throws IllegalArgumentException, IllegalStateException
        public int addPoint(int, int, int) throws IndexOutOfBoundsException, IllegalArgumentException, IllegalStateException
        public int dropPoint(int) throws IndexOutOfBoundsException, IllegalStateException
        public boolean setOneWay(int, boolean) throws IndexOutOfBoundsException
        public void rename(int, int, int) throws IndexOutOfBoundsException, IllegalArgumentException
        public int setKind(int, int) throws IndexOutOfBoundsException, IllegalArgumentException
        public int streets()
        public int streetAt(int) throws IndexOutOfBoundsException
        public int placeOf(int) throws IndexOutOfBoundsException
        public int compareKeys(int, int) throws IndexOutOfBoundsException
        public int lineLength(int) throws IndexOutOfBoundsException
        public char lineChar(int, int) throws IndexOutOfBoundsException
        public int trackLength(int) throws IndexOutOfBoundsException
        public int squares(int) throws IndexOutOfBoundsException
        public int runs(int) throws IndexOutOfBoundsException
        public boolean isOn(int, int, int) throws IndexOutOfBoundsException
        public boolean isOnTrack(int, int, int) throws IndexOutOfBoundsException
        public int streetsOf(int, int) throws IndexOutOfBoundsException
        public int distance(int, int, int) throws IndexOutOfBoundsException
        public int nearest(int, int, int) throws IndexOutOfBoundsException
        public int walk(int, int, int, int) throws IndexOutOfBoundsException
        public int walkByRounds(int, int, int, int) throws IndexOutOfBoundsException
        public int reachable(int, int) throws IndexOutOfBoundsException
        """;

    public static void main(String[] args) {
        theClass();
        methods();
        fields();
        classesInside();
        expect.end();
    }

    private static void theClass() {
        Class<?> face = StreetIndex.class;
        expect.same("modifiers", Modifier.toString(face.getModifiers()), "public final");
        Constructor<?>[] constructors = face.getDeclaredConstructors();
        expect.same("constructors", constructors.length, 1);
        expect.same("its parameters", constructors[0].getParameterCount(), 0);
        expect.same("it is public", Modifier.isPublic(constructors[0].getModifiers()), true);
    }

    private static void methods() {
        TreeSet<String> seen = new TreeSet<>();
        TreeSet<String> publicNames = new TreeSet<>();
        for (Method method : StreetIndex.class.getDeclaredMethods()) {
            if (!Modifier.isPrivate(method.getModifiers())) {
                seen.add(written(method));
                publicNames.add(method.getName());
            }
        }
        expect.same("the face", String.join("\n", seen), String.join("\n", new TreeSet<>(FACE.lines().toList())));
        for (Method method : StreetIndex.class.getDeclaredMethods()) {
            boolean hidden = Modifier.isPrivate(method.getModifiers());
            expect.same("a private one bears the public name " + method.getName(),
                hidden && publicNames.contains(method.getName()), false);
        }
    }

    private static String written(Method method) {
        return method.toString().replace("StreetIndex.", "").replace("java.lang.", "").replace(",", ", ");
    }

    private static void fields() {
        for (Field field : StreetIndex.class.getDeclaredFields()) {
            int modifiers = field.getModifiers();
            expect.same(field.getName() + " is private", Modifier.isPrivate(modifiers), true);
            expect.same(field.getName() + " is final if static",
                !Modifier.isStatic(modifiers) || Modifier.isFinal(modifiers), true);
        }
    }

    private static void classesInside() {
        for (Class<?> inside : StreetIndex.class.getDeclaredClasses()) {
            expect.same(inside.getName() + " is seen from outside", Modifier.isPublic(inside.getModifiers()), false);
            expect.same(inside.getName() + " is static", Modifier.isStatic(inside.getModifiers()), true);
        }
    }
}
