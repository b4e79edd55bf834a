import java.lang.reflect.Constructor;
import java.lang.reflect.Field;
import java.lang.reflect.Method;
import java.lang.reflect.Modifier;
import java.util.Arrays;
import java.util.TreeSet;

/** The public face: just the constants, the constructor and the methods of the document. */
public final class FaceTest {
    private static final String[] FACE = {
        "int house()", "int girl(int,int)", "int girls(int,int,int)", "int mend(int,int,int)", "int of(int,int)",
        "int has(int,int)", "int feed(int)", "int law()", "int later(int,int,int)", "int knows(int,int,int)",
        "int first(int,int)", "int week(int)", "int pack(int)", "int whose()", "int hires(int,int,int)", "int spare(int)",
        "int given(int)", "int fewest(int)", "int trains(int)", "int voices(int,int)", "int judge(int,int)",
        "int bill(int,int)", "int most()", "int byTurns(int,int,int)", "int drawn(int,int,int)", "int day()",
        "int hire(int,int)", "int letGo(int)", "int sweep(int)", "int led(int)", "int image()", "int back()", "int undo()",
        "int redo()", "int body(int)", "int act(int,int,int)", "int trace(int)", "int keep(int,int)", "int row(int,int,int)",
        "int put(int,int,long)", "long element(int,int)", "int shift(int,int,int,int,int)", "int taken(int,int)",
        "int count(int)"};

    public static void main(String[] args) {
        constants();
        methods();
        fields();
        classesInside();
        Due.end("FaceTest");
    }

    private static void constants() {
        Due.is("BAD", MaidsMemory.BAD, -1);
        Due.is("NOT", MaidsMemory.NOT, -2);
        Due.is("FULL", MaidsMemory.FULL, -3);
        Due.is("STATE", MaidsMemory.STATE, -5);
        Due.is("VOID", MaidsMemory.VOID, -2000000000);
    }

    private static void methods() {
        Due.holds("the class is public and final", MaidsMemory.class.getModifiers() == (Modifier.PUBLIC | Modifier.FINAL));
        Due.holds("no package", MaidsMemory.class.getPackageName().isEmpty());
        Due.holds("under no other class", MaidsMemory.class.getSuperclass() == Object.class);
        Constructor<?>[] constructors = MaidsMemory.class.getDeclaredConstructors();
        Due.is("constructors", constructors.length, 1);
        Due.is("a public constructor", constructors[0].getModifiers(), Modifier.PUBLIC);
        Due.is("its parameters", constructors[0].getParameterCount(), 0);
        TreeSet<String> names = new TreeSet<>();
        TreeSet<String> open = new TreeSet<>();
        for (Method method : MaidsMemory.class.getDeclaredMethods()) {
            if (method.getModifiers() == Modifier.PUBLIC) {
                String parameters = Arrays.toString(method.getParameterTypes()).replace(", ", ",");
                String told = method.getReturnType() + " " + method.getName() + "(";
                open.add(told + parameters.substring(1, parameters.length() - 1) + ")");
                names.add(method.getName());
            }
        }
        Due.holds("the methods are those of the face: " + open, open.equals(new TreeSet<>(Arrays.asList(FACE))));
        Due.is("no two of a name", names.size(), FACE.length);
        for (Method method : MaidsMemory.class.getDeclaredMethods()) {
            boolean isPublic = method.getModifiers() == Modifier.PUBLIC;
            Due.holds("private: " + method, isPublic || Modifier.isPrivate(method.getModifiers()));
            Due.holds("a name of its own: " + method, isPublic || !names.contains(method.getName()));
        }
        for (Class<?> inside : MaidsMemory.class.getDeclaredClasses()) {
            for (Method method : inside.getDeclaredMethods()) {
                Due.holds("a name of its own: " + method, !names.contains(method.getName()));
                Due.holds("seven parameters at most: " + method, method.getParameterCount() <= 7);
            }
        }
    }

    private static void fields() {
        TreeSet<String> open = new TreeSet<>();
        for (Field field : MaidsMemory.class.getDeclaredFields()) {
            if (field.getModifiers() == (Modifier.PUBLIC | Modifier.STATIC | Modifier.FINAL)) {
                open.add(field.getName());
            } else {
                Due.holds("private: " + field, Modifier.isPrivate(field.getModifiers()));
            }
        }
        Due.holds("the constants are those of the face", open.toString().equals("[BAD, FULL, NOT, STATE, VOID]"));
    }

    private static void classesInside() {
        Class<?>[] inside = MaidsMemory.class.getDeclaredClasses();
        Due.holds("twelve classes at most", inside.length + 1 <= 12);
        for (Class<?> each : inside) {
            Due.holds("static: " + each, Modifier.isStatic(each.getModifiers()));
            Due.holds("not public: " + each, !Modifier.isPublic(each.getModifiers()));
            Due.is("no class inside it: " + each, each.getDeclaredClasses().length, 0);
            stateOf(each);
        }
        stateOf(MaidsMemory.class);
    }

    private static void stateOf(Class<?> each) {
        int own = 0;
        for (Field field : each.getDeclaredFields()) {
            boolean isStatic = Modifier.isStatic(field.getModifiers());
            own += isStatic ? 0 : 1;
            Due.holds("static and final: " + field, !isStatic || Modifier.isFinal(field.getModifiers()));
        }
        Due.holds("twenty fields at most: " + each, own <= 20);
    }
}
