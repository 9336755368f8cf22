import java.lang.reflect.Constructor;
import java.lang.reflect.Field;
import java.lang.reflect.Method;
import java.lang.reflect.Modifier;
import java.util.Arrays;
import java.util.Set;
import java.util.TreeSet;

/** The class has the public members that the document shows, and no others that could be seen from outside. */
public final class FaceTest extends Checks {
    private static final String[] FACE = {
        "int addVariable(int, int, boolean)", "int addFunction(int, int, int)", "int setBody(int, int)",
        "int number(int, int)", "int name(int)", "int unary(char, int)", "int cast(int, int)",
        "int binary(char, int, int)", "int choose(int, int, int)", "int assign(char, int, int)",
        "int call(int, int, int)", "int typeOf(int)", "int simple(char, int)", "int declare(int)",
        "int branch(int, int, int)", "int repeat(int, int)", "int then(int, int)", "int block(int)", "char run(int)",
        "char runOptimised(int)", "char kindOf()", "int placeOf()", "int steps()", "int choices()", "int printed()",
        "char printedAt(int)", "int behaviours()", "int undefinedOrders()", "int optimised()", "int optimisedSize()",
        "boolean isAsIf()", "float definedShare()", "long allSteps()"};

    private static void methods() {
        Set<String> seen = new TreeSet<>();
        Set<String> names = new TreeSet<>();
        for (Method method : Sequencepoint.class.getDeclaredMethods()) {
            if (!Modifier.isPrivate(method.getModifiers()) && !method.isSynthetic()) {
                String parts = Arrays.toString(method.getParameterTypes());
                seen.add(method.getReturnType() + " " + method.getName() + "(" + parts.substring(1, parts.length() - 1) + ")");
                names.add(method.getName());
                is(method.getName() + " is public, and no more", method.getModifiers(), Modifier.PUBLIC);
            }
        }
        is("methods", seen.toString(), new TreeSet<>(Arrays.asList(FACE)).toString());
        for (Method method : Sequencepoint.class.getDeclaredMethods()) {
            boolean isHidden = Modifier.isPrivate(method.getModifiers());
            is("no private " + method.getName(), isHidden && names.contains(method.getName()) ? 1 : 0, 0);
        }
    }

    private static void otherMembers() {
        is("the class is public and final", Sequencepoint.class.getModifiers(), Modifier.PUBLIC | Modifier.FINAL);
        Constructor<?>[] constructors = Sequencepoint.class.getDeclaredConstructors();
        is("one constructor", constructors.length, 1);
        is("it is public", constructors[0].getModifiers(), Modifier.PUBLIC);
        is("it takes nothing", constructors[0].getParameterCount(), 0);
        for (Field field : Sequencepoint.class.getDeclaredFields()) {
            is(field.getName() + " is private", Modifier.isPrivate(field.getModifiers()) ? 1 : 0, 1);
        }
    }

    public static void main(String[] args) {
        about("The public face.", FaceTest::methods, FaceTest::otherMembers);
        finish("FaceTest");
    }
}
