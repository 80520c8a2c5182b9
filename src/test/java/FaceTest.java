import java.lang.reflect.Constructor;
import java.lang.reflect.Field;
import java.lang.reflect.Member;
import java.lang.reflect.Method;
import java.lang.reflect.Modifier;
import java.util.Arrays;
import java.util.Set;
import java.util.TreeSet;

/** The public face: each constant, constructor and method with its throws clause, and no other visible member. */
public final class FaceTest {
    private static final String[] METHODS = {
        "int come(int, int) IndexOutOfBoundsException IllegalStateException",
        "int leave(int, int, boolean) IndexOutOfBoundsException IllegalStateException",
        "int listeners(int, int) IndexOutOfBoundsException",
        "boolean setOpen(int, boolean) IndexOutOfBoundsException",
        "boolean setQuick(boolean)",
        "int setTimes(int, int, int) IllegalArgumentException",
        "int setPresent(int, boolean) IndexOutOfBoundsException",
        "int chief()",
        "int rest(int, int) IndexOutOfBoundsException",
        "int entries()",
        "boolean isOpen(int) IndexOutOfBoundsException",
        "int rows(int) IndexOutOfBoundsException",
        "int wanted(int) IndexOutOfBoundsException",
        "int pass(int) IllegalArgumentException",
        "int play(int) IndexOutOfBoundsException",
        "int minutes()",
        "int sinceQuestion()",
        "int count(int) IndexOutOfBoundsException",
        "double usefulShare()",
        "int minutesToFade(int, int) IndexOutOfBoundsException",
        "int minutesToQuestion()",
        "int disturbedAfter(int, int) IndexOutOfBoundsException IllegalArgumentException",
        "int append(int) IllegalArgumentException IllegalStateException",
        "int clearText()",
        "int firstError()",
        "int run() IllegalArgumentException",
        "int undo() IllegalStateException",
        "int savedStates()",
        "long digest()",
    };

    public static void main(String[] args) {
        methods();
        othersArePrivate();
        Check.due("NONE", ConcertUsher.NONE, -1);
        Check.due("the class is public and final", ConcertUsher.class.getModifiers(), Modifier.PUBLIC | Modifier.FINAL);
        Check.end("FaceTest");
    }

    private static void methods() {
        Set<String> want = new TreeSet<>(Arrays.asList(METHODS));
        Set<String> got = new TreeSet<>();
        for (Method method : ConcertUsher.class.getDeclaredMethods()) {
            if (!Modifier.isPrivate(method.getModifiers())) {
                got.add(faceOf(method));
                Check.due(method + " is public only", method.getModifiers(), Modifier.PUBLIC);
            }
        }
        if (!got.equals(want)) {
            Check.tell("the methods are " + got + ", due are " + want);
        }
    }

    private static String faceOf(Method method) {
        StringBuilder face = new StringBuilder();
        face.append(method.getReturnType().getSimpleName()).append(' ').append(method.getName()).append('(');
        String gap = "";
        for (Class<?> type : method.getParameterTypes()) {
            face.append(gap).append(type.getSimpleName());
            gap = ", ";
        }
        face.append(')');
        for (Class<?> type : method.getExceptionTypes()) {
            face.append(' ').append(type.getSimpleName());
        }
        return face.toString();
    }

    private static void othersArePrivate() {
        for (Field field : ConcertUsher.class.getDeclaredFields()) {
            if (!field.getName().equals("NONE")) {
                isPrivate(field);
            }
        }
        Constructor<?>[] constructors = ConcertUsher.class.getDeclaredConstructors();
        Check.due("the number of constructors", constructors.length, 1);
        Check.due("the constructor is public", constructors[0].getModifiers(), Modifier.PUBLIC);
        Check.due("the constructor's parameters", constructors[0].getParameterCount(), 0);
        Check.due("the constructor's exceptions", constructors[0].getExceptionTypes().length, 0);
        Set<String> names = new TreeSet<>();
        for (Method method : ConcertUsher.class.getMethods()) {
            names.add(method.getName());
        }
        for (Method method : ConcertUsher.class.getDeclaredMethods()) {
            if (Modifier.isPrivate(method.getModifiers()) && names.contains(method.getName())) {
                Check.tell(method + " is private and bears the name of a public one");
            }
        }
    }

    private static void isPrivate(Member member) {
        Check.due(member + " is private", Modifier.isPrivate(member.getModifiers()), true);
    }
}
