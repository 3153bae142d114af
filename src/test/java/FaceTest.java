import java.lang.reflect.Constructor;
import java.lang.reflect.Field;
import java.lang.reflect.Member;
import java.lang.reflect.Method;
import java.lang.reflect.Modifier;
import java.util.Set;
import java.util.TreeSet;

/** The class shows the document's face, and nothing else. */
public final class FaceTest {
    private static final String[] FACE = {
        "public int setColours(int) throws IllegalArgumentException",
        "public int hide(int) throws IndexOutOfBoundsException",
        "public int swap(int,int) throws IndexOutOfBoundsException,IllegalStateException",
        "public int guess(int) throws IndexOutOfBoundsException,IllegalStateException",
        "public int tell(int,int,int) throws IndexOutOfBoundsException,IllegalArgumentException,IllegalStateException",
        "public boolean doubt(int,boolean) throws IndexOutOfBoundsException",
        "public int forget() throws IllegalStateException",
        "public int colour(int,int) throws IndexOutOfBoundsException",
        "public int pins(int,int) throws IndexOutOfBoundsException",
        "public int told(int,int) throws IndexOutOfBoundsException",
        "public int count(int) throws IndexOutOfBoundsException",
        "public boolean isPossible(int) throws IndexOutOfBoundsException",
        "public int possible(int) throws IndexOutOfBoundsException",
        "public int have(int,int) throws IndexOutOfBoundsException",
        "public int sure(int) throws IndexOutOfBoundsException",
        "public int worst(int) throws IndexOutOfBoundsException",
        "public int parts(int) throws IndexOutOfBoundsException",
        "public int best()",
        "public int takes(int,int) throws IndexOutOfBoundsException",
        "public double mean()",
        "public long digest()",
    };

    private static int wrong = 0;

    public static void main(String[] args) {
        methods();
        constructors();
        fields();
        classesInside();
        if (wrong > 0) {
            System.exit(1);
        }
    }

    private static void check(boolean holds, String what) {
        if (!holds) {
            wrong++;
            System.out.println("face: " + what);
        }
    }

    private static boolean isPrivate(Member member) {
        return Modifier.isPrivate(member.getModifiers());
    }

    private static void methods() {
        Set<String> due = new TreeSet<>(Set.of(FACE));
        Set<String> shown = new TreeSet<>();
        Set<String> names = new TreeSet<>();
        for (Method method : HiddenCandles.class.getDeclaredMethods()) {
            if (!isPrivate(method)) {
                shown.add(method.toGenericString().replace("HiddenCandles.", "").replace("java.lang.", ""));
                names.add(method.getName());
            }
        }
        check(shown.equals(due), "methods are " + shown + ", due are " + due);
        for (Method method : HiddenCandles.class.getDeclaredMethods()) {
            check(!isPrivate(method) || !names.contains(method.getName()), "a private " + method.getName());
        }
    }

    private static void constructors() {
        int modifiers = HiddenCandles.class.getModifiers();
        check(Modifier.isPublic(modifiers) && Modifier.isFinal(modifiers), "the class is not public and final");
        Constructor<?>[] all = HiddenCandles.class.getDeclaredConstructors();
        check(all.length == 1, "constructors: " + all.length);
        for (Constructor<?> one : all) {
            check(Modifier.isPublic(one.getModifiers()) && one.getParameterCount() == 0, one.toString());
        }
    }

    private static void fields() {
        for (Field field : HiddenCandles.class.getDeclaredFields()) {
            check(isPrivate(field), "not private: " + field);
            check(!Modifier.isStatic(field.getModifiers()) || Modifier.isFinal(field.getModifiers()), "static: " + field);
        }
    }

    private static void classesInside() {
        for (Class<?> inside : HiddenCandles.class.getDeclaredClasses()) {
            int modifiers = inside.getModifiers();
            check(Modifier.isStatic(modifiers), "not static: " + inside);
            check(!Modifier.isPublic(modifiers) && !Modifier.isProtected(modifiers), "shown: " + inside);
        }
    }
}
