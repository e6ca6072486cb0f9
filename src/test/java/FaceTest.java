import java.lang.reflect.Constructor;
import java.lang.reflect.Field;
import java.lang.reflect.Method;
import java.lang.reflect.Modifier;
import java.util.ArrayList;
import java.util.List;
import java.util.TreeSet;

/** The face of the class: just the members that the document lists, with their exceptions. */
public final class FaceTest {
    private static final String I = "IndexOutOfBoundsException";
    private static final String A = "IllegalArgumentException";
    private static final String S = "IllegalStateException";

    private static final String[] FACE = {
        "int begin(int,int,int) " + I + " " + A + " " + S,
        "int vote(int,int,boolean) " + I + " " + S,
        "int decide(int) " + I + " " + S,
        "int tell(int,int) " + I + " " + S,
        "int ask(int,int,int) " + I + " " + A + " " + S,
        "int fallSilent(int) " + I + " " + S,
        "int comeBack(int) " + I + " " + S,
        "int pass(int) " + A,
        "int setPatience(int) " + A,
        "int deals()",
        "boolean isUp(int) " + I,
        "int state(int,int) " + I,
        "int decision(int) " + I,
        "int leader(int) " + I,
        "int patience(int,int) " + I,
        "int open()",
        "int stuck()",
        "int logLength(int) " + I,
        "int log(int,int) " + I,
        "int held(int) " + I,
        "int asked()",
        "double doubtShare()",
        "int reason(int,int) " + I,
        "int helper(int,int) " + I,
        "int ticksToEnd(int,int) " + I,
        "int append(int) " + A + " " + S,
        "int clearText()",
        "int firstError()",
        "int run() " + A,
        "int undo() " + S,
        "int savedStates()",
        "long digest()",
    };

    private FaceTest() {
    }

    public static void main(String[] args) {
        Class<?> face = DealDoubts.class;
        Checks.due("the class is public and final", face.getModifiers(), Modifier.PUBLIC | Modifier.FINAL);
        checkMethods(face);
        checkFields(face);
        checkConstructors(face);
        checkNestedClasses(face);
        Checks.end("FaceTest");
    }

    private static void checkMethods(Class<?> face) {
        TreeSet<String> wanted = new TreeSet<>(List.of(FACE));
        TreeSet<String> publicNames = new TreeSet<>();
        TreeSet<String> found = new TreeSet<>();
        for (Method method : face.getDeclaredMethods()) {
            if (Modifier.isPublic(method.getModifiers())) {
                found.add(told(method));
                publicNames.add(method.getName());
            }
        }
        if (!found.equals(wanted)) {
            Checks.fail("the public methods are " + found + ", due are " + wanted);
        }
        for (Method method : face.getDeclaredMethods()) {
            boolean isPublic = Modifier.isPublic(method.getModifiers());
            Checks.due(method + " is public or private", isPublic || Modifier.isPrivate(method.getModifiers()), true);
            Checks.due(method + " bears a name of its own", isPublic || !publicNames.contains(method.getName()), true);
            Checks.due(method + " takes at most seven parameters", method.getParameterCount() <= 7, true);
        }
    }

    private static boolean isOfTheFace(String name) {
        return String.join(",", FACE).contains(" " + name + "(");
    }

    private static String told(Method method) {
        List<String> types = new ArrayList<>();
        for (Class<?> type : method.getParameterTypes()) {
            types.add(type.getSimpleName());
        }
        StringBuilder told = new StringBuilder(method.getReturnType().getSimpleName());
        told.append(' ').append(method.getName()).append('(').append(String.join(",", types)).append(')');
        for (Class<?> kind : method.getExceptionTypes()) {
            told.append(' ').append(kind.getSimpleName());
        }
        return told.toString();
    }

    private static void checkFields(Class<?> face) {
        for (Field field : face.getDeclaredFields()) {
            int modifiers = field.getModifiers();
            if (field.getName().equals("NONE")) {
                int due = Modifier.PUBLIC | Modifier.STATIC | Modifier.FINAL;
                Checks.due("NONE is a public constant", modifiers, due);
            } else {
                Checks.due(field + " is private", Modifier.isPrivate(modifiers), true);
            }
            if (Modifier.isStatic(modifiers)) {
                Checks.due(field + " is final", Modifier.isFinal(modifiers), true);
            }
        }
        Checks.due("NONE", DealDoubts.NONE, -1);
    }

    private static void checkConstructors(Class<?> face) {
        Constructor<?>[] constructors = face.getDeclaredConstructors();
        Checks.due("constructors", constructors.length, 1);
        Checks.due("the constructor is public", constructors[0].getModifiers(), Modifier.PUBLIC);
        Checks.due("the constructor takes nothing", constructors[0].getParameterCount(), 0);
    }

    private static void checkNestedClasses(Class<?> face) {
        Class<?>[] nested = face.getDeclaredClasses();
        Checks.due("at most twelve classes", nested.length < 12, true);
        for (Class<?> inside : nested) {
            int modifiers = inside.getModifiers();
            boolean isHidden = !Modifier.isPublic(modifiers) && !Modifier.isProtected(modifiers);
            Checks.due(inside + " is static", Modifier.isStatic(modifiers), true);
            Checks.due(inside + " is private or package-visible", isHidden, true);
            for (Method method : inside.getDeclaredMethods()) {
                boolean isPrivate = Modifier.isPrivate(method.getModifiers());
                Checks.due(method + " bears a name of its own", isPrivate && isOfTheFace(method.getName()), false);
            }
        }
    }
}
