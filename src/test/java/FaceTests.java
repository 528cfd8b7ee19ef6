import java.lang.reflect.Constructor;
import java.lang.reflect.Field;
import java.lang.reflect.Method;
import java.lang.reflect.Modifier;
import java.util.ArrayList;
import java.util.Arrays;
import java.util.List;
import java.util.Set;
import java.util.TreeSet;

/** The public face, to the letter, and what LANGUAGE.md's rules 1 and 5 say of members. */
public final class FaceTests {
    private static final String[] FACE = {
        "int fill(int,int) IndexOutOfBoundsException IllegalArgumentException IllegalStateException",
        "int vent(int,int) IndexOutOfBoundsException IllegalArgumentException IllegalStateException",
        "int drop(int) IndexOutOfBoundsException IllegalStateException",
        "int put(int) IndexOutOfBoundsException IllegalStateException",
        "int leak(int,int) IndexOutOfBoundsException IllegalArgumentException",
        "int tie(int,int) IndexOutOfBoundsException IllegalArgumentException IllegalStateException",
        "int cut(int) IndexOutOfBoundsException IllegalStateException",
        "int bear(int,int) IndexOutOfBoundsException IllegalArgumentException",
        "int tune(int,int) IndexOutOfBoundsException IllegalArgumentException",
        "int note(int) IndexOutOfBoundsException",
        "int pass(int) IllegalArgumentException",
        "int append(int) IllegalArgumentException IllegalStateException",
        "int clearBuffer()",
        "int firstError()",
        "int work() IllegalArgumentException",
        "int keep()",
        "int goBack() IllegalStateException",
        "int undo() IllegalStateException",
        "int balloon(int,int) IndexOutOfBoundsException IllegalArgumentException",
        "int ribbon(int,int) IndexOutOfBoundsException IllegalArgumentException",
        "int noted(int,int) IndexOutOfBoundsException IllegalArgumentException",
        "int count(int) IllegalArgumentException",
        "int why(int,int) IndexOutOfBoundsException IllegalArgumentException",
        "int stopped(int) IllegalArgumentException",
        "int ifDropped(int,int) IndexOutOfBoundsException IllegalArgumentException",
        "int landsIn(int) IndexOutOfBoundsException",
        "int snapsIn()",
        "int bestBag()",
        "double meanHeight()",
        "float lostShare()",
        "long digest()",
    };

    private FaceTests() {
    }

    private static String told(Method method) {
        List<String> takes = new ArrayList<>();
        for (Class<?> type : method.getParameterTypes()) {
            takes.add(type.getSimpleName());
        }
        StringBuilder text = new StringBuilder();
        text.append(method.getReturnType().getSimpleName()).append(' ').append(method.getName());
        text.append('(').append(String.join(",", takes)).append(')');
        for (Class<?> type : method.getExceptionTypes()) {
            text.append(' ').append(type.getSimpleName());
        }
        return text.toString();
    }

    private static void checkMethods(Class<?> face) {
        Set<String> publicOnes = new TreeSet<>();
        Set<String> publicNames = new TreeSet<>();
        for (Method method : face.getDeclaredMethods()) {
            if (Modifier.isPublic(method.getModifiers())) {
                publicOnes.add(told(method));
                publicNames.add(method.getName());
                Checks.due("no static or other flag: " + method, method.getModifiers(), Modifier.PUBLIC);
            } else {
                Checks.due("private: " + method, Modifier.isPrivate(method.getModifiers()) ? 1 : 0, 1);
            }
        }
        Set<String> due = new TreeSet<>(Arrays.asList(FACE));
        if (!publicOnes.equals(due)) {
            System.out.println("the face is " + publicOnes);
        }
        Checks.due("the face is as the document tells it", publicOnes.equals(due) ? 1 : 0, 1);
        checkNames(face, publicNames);
        for (Class<?> inside : face.getDeclaredClasses()) {
            checkNames(inside, publicNames);
        }
    }

    private static void checkNames(Class<?> owner, Set<String> publicNames) {
        for (Method method : owner.getDeclaredMethods()) {
            if (!Modifier.isPublic(method.getModifiers())) {
                Checks.due("a name of its own: " + method, publicNames.contains(method.getName()) ? 1 : 0, 0);
            }
        }
    }

    private static void checkFields(Class<?> owner, boolean outer) {
        for (Field field : owner.getDeclaredFields()) {
            int flags = field.getModifiers();
            if (outer && field.getName().equals("NONE")) {
                Checks.due("NONE", flags, Modifier.PUBLIC | Modifier.STATIC | Modifier.FINAL);
                continue;
            }
            if (outer) {
                Checks.due("private: " + field, Modifier.isPrivate(flags) ? 1 : 0, 1);
            }
            if (Modifier.isStatic(flags)) {
                Checks.due("final: " + field, Modifier.isFinal(flags) ? 1 : 0, 1);
            }
        }
    }

    public static void main(String[] args) {
        Class<?> face = RibbonBalloons.class;
        Checks.due("the class is public and final", face.getModifiers(), Modifier.PUBLIC | Modifier.FINAL);
        Checks.due("NONE", RibbonBalloons.NONE, -1000);
        Constructor<?>[] constructors = face.getDeclaredConstructors();
        Checks.due("one constructor", constructors.length, 1);
        Checks.due("it is public", constructors[0].getModifiers(), Modifier.PUBLIC);
        Checks.due("it takes nothing", constructors[0].getParameterCount(), 0);
        checkMethods(face);
        checkFields(face, true);
        for (Class<?> inside : face.getDeclaredClasses()) {
            Checks.due("not public: " + inside, Modifier.isPublic(inside.getModifiers()) ? 1 : 0, 0);
            checkFields(inside, false);
        }
        Checks.end("FaceTests");
    }
}
