import java.lang.reflect.Constructor;
import java.lang.reflect.Field;
import java.lang.reflect.Method;
import java.lang.reflect.Modifier;
import java.util.Set;
import java.util.TreeSet;

/** The public face of the document: its constructor, methods and constants, no more and no fewer. */
public final class FaceTest {
    private static final Check CHECK = new Check();

    private static final Set<String> METHODS = Set.of(
        "add(int)", "remove(int)", "read(int,int)", "pin(int,boolean)", "pass(int)", "set(int,int)",
        "type(char)", "clearText()", "perform()", "undo()", "keep()", "restore()",
        "block(int)", "ofBlock(int,int)", "shelf(int,int)", "total(int)",
        "ifPassed(int,int)", "nextMove()", "bestHot(int,int)", "cheapest(int,int)");

    private static final Set<String> CONSTANTS =
        Set.of("UNKNOWN = -1", "OUT_OF_RANGE = -2", "FULL = -3", "NOT_POSSIBLE = -4", "NONE = -5");

    public static void main(String[] args) throws ReflectiveOperationException {
        checkClass();
        checkMethods();
        checkConstants();
        CHECK.end();
    }

    private static void checkClass() {
        CHECK.part("class");
        CHECK.due("public and final", HeatShelves.class.getModifiers(), Modifier.PUBLIC | Modifier.FINAL);
        CHECK.holds("no package", HeatShelves.class.getPackageName().isEmpty());
        CHECK.holds("no other type above it", HeatShelves.class.getSuperclass() == Object.class
            && HeatShelves.class.getInterfaces().length == 0);
        Constructor<?>[] constructors = HeatShelves.class.getDeclaredConstructors();
        CHECK.due("constructors", constructors.length, 1);
        CHECK.due("its parameters", constructors[0].getParameterCount(), 0);
        CHECK.due("public", constructors[0].getModifiers(), Modifier.PUBLIC);
    }

    private static void checkMethods() {
        CHECK.part("methods");
        Set<String> found = new TreeSet<>();
        for (Method method : HeatShelves.class.getDeclaredMethods()) {
            if (!Modifier.isPrivate(method.getModifiers())) {
                found.add(signature(method));
                CHECK.holds(method.getName() + " answers an int", method.getReturnType() == int.class);
                CHECK.due(method.getName() + " is public alone", method.getModifiers(), Modifier.PUBLIC);
            }
        }
        CHECK.holds("the methods are " + found, found.equals(METHODS));
    }

    private static String signature(Method method) {
        StringBuilder parameters = new StringBuilder();
        for (Class<?> parameter : method.getParameterTypes()) {
            parameters.append(parameters.length() == 0 ? "" : ",").append(parameter.getName());
        }
        return method.getName() + "(" + parameters + ")";
    }

    private static void checkConstants() throws ReflectiveOperationException {
        CHECK.part("constants");
        int constant = Modifier.PUBLIC | Modifier.STATIC | Modifier.FINAL;
        Set<String> found = new TreeSet<>();
        for (Field field : HeatShelves.class.getDeclaredFields()) {
            if (!Modifier.isPrivate(field.getModifiers())) {
                CHECK.due(field.getName() + " is a public constant", field.getModifiers(), constant);
                CHECK.holds(field.getName() + " is an int", field.getType() == int.class);
                found.add(field.getName() + " = " + field.getInt(null));
            }
        }
        CHECK.holds("the constants are " + found, found.equals(CONSTANTS));
    }
}
