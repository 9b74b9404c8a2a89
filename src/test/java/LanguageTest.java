import java.io.IOException;
import java.lang.reflect.Field;
import java.lang.reflect.Method;
import java.lang.reflect.Modifier;
import java.nio.file.Files;
import java.nio.file.Path;
import java.util.List;
import java.util.Set;
import java.util.TreeSet;

/** The face of the class, and those rules of LANGUAGE.md that can be seen from outside or by words. */
public final class LanguageTest {
    private static final Check CHECK = new Check();

    private static final Set<String> FACE = Set.of(
        "add(int)", "remove(int)", "read(int,int)", "pin(int,boolean)", "pass(int)", "set(int,int)",
        "type(char)", "clearText()", "perform()", "undo()", "keep()", "restore()",
        "block(int)", "ofBlock(int,int)", "shelf(int,int)", "total(int)",
        "ifPassed(int,int)", "nextMove()", "bestHot(int,int)", "cheapest(int,int)");

    private static final Set<String> CONSTANTS =
        Set.of("UNKNOWN", "OUT_OF_RANGE", "FULL", "NOT_POSSIBLE", "NONE");

    private static final List<String> RULED_OUT = List.of(
        "import ", "package ", "throw", "try", "catch", "synchronized", "assert", "->", "::",
        "lambda", "System.out", "System.exit", "currentTimeMillis", "nanoTime", "Random", "Exact(",
        "var ", "native", "volatile");

    public static void main(String[] args) throws IOException {
        checkFace();
        checkInside();
        checkWords(Files.readAllLines(Path.of("src/main/java/HeatShelves.java")));
        CHECK.end();
    }

    private static void checkFace() {
        CHECK.part("face");
        Class<?> type = HeatShelves.class;
        CHECK.holds("final", Modifier.isFinal(type.getModifiers()) && Modifier.isPublic(type.getModifiers()));
        CHECK.due("constructors", type.getDeclaredConstructors().length, 1);
        CHECK.due("its parameters", type.getDeclaredConstructors()[0].getParameterCount(), 0);
        CHECK.holds("public constructor", Modifier.isPublic(type.getDeclaredConstructors()[0].getModifiers()));
        Set<String> found = new TreeSet<>();
        for (Method method : type.getDeclaredMethods()) {
            if (!Modifier.isPrivate(method.getModifiers())) {
                found.add(signature(method));
                CHECK.holds(method.getName() + " answers an int", method.getReturnType() == int.class);
                CHECK.due(method.getName() + " is public alone", method.getModifiers(), Modifier.PUBLIC);
            }
        }
        CHECK.holds("the methods are " + found, found.equals(FACE));
        Set<String> constants = new TreeSet<>();
        for (Field field : type.getDeclaredFields()) {
            int modifiers = field.getModifiers();
            if (!Modifier.isPrivate(modifiers)) {
                constants.add(field.getName());
            }
            CHECK.holds(field.getName() + " is no static state", !Modifier.isStatic(modifiers) || Modifier.isFinal(modifiers));
        }
        CHECK.holds("the constants are " + constants, constants.equals(CONSTANTS));
    }

    private static String signature(Method method) {
        StringBuilder parameters = new StringBuilder();
        for (Class<?> parameter : method.getParameterTypes()) {
            parameters.append(parameters.length() == 0 ? "" : ",").append(parameter.getName());
        }
        return method.getName() + "(" + parameters + ")";
    }

    private static void checkInside() {
        CHECK.part("inside");
        Set<String> publicNames = new TreeSet<>();
        FACE.forEach(s -> publicNames.add(s.substring(0, s.indexOf('('))));
        checkPrivateNames(HeatShelves.class, publicNames);
        Class<?>[] inside = HeatShelves.class.getDeclaredClasses();
        CHECK.holds("at most 12 classes", inside.length < 12);
        for (Class<?> type : inside) {
            CHECK.holds(type + " is static", Modifier.isStatic(type.getModifiers()));
            CHECK.holds(type + " is not public", !Modifier.isPublic(type.getModifiers()));
            checkPrivateNames(type, publicNames);
        }
    }

    private static void checkPrivateNames(Class<?> type, Set<String> publicNames) {
        int fields = 0;
        for (Field field : type.getDeclaredFields()) {
            fields += Modifier.isStatic(field.getModifiers()) ? 0 : 1;
        }
        CHECK.holds(type + " has at most 20 fields", fields <= 20);
        for (Method method : type.getDeclaredMethods()) {
            CHECK.holds(method + " has at most 7 parameters", method.getParameterCount() <= 7);
            if (Modifier.isPrivate(method.getModifiers())) {
                CHECK.holds(method + " has a name that no public one bears", !publicNames.contains(method.getName()));
            }
        }
    }

    private static void checkWords(List<String> lines) {
        CHECK.part("words");
        for (int i = 0; i < lines.size(); i++) {
            String line = lines.get(i);
            String code = line.strip();
            if (code.startsWith("//") || code.startsWith("*") || code.startsWith("/*")) {
                continue;
            }
            for (String word : RULED_OUT) {
                CHECK.holds("line " + (i + 1) + " is free of " + word, !code.contains(word));
            }
            boolean isMade = code.contains("new ");
            boolean isRow = code.startsWith("private final ") || code.equals("states[i] = new State();");
            CHECK.holds("line " + (i + 1) + " makes no object in a call", !isMade || isRow);
        }
    }
}
