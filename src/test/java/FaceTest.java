import java.lang.reflect.Constructor;
import java.lang.reflect.Field;
import java.lang.reflect.Method;
import java.lang.reflect.Modifier;
import java.util.Set;
import java.util.TreeSet;

/** The public face: what the document lists, and no other member that can be seen. */
public final class FaceTest {
    private static final Set<String> METHODS = Set.of(
            "int begin()", "int set(int,int)", "int tear(int)", "int change(int)", "int fill(int,int,int)",
            "int drain(int,int)", "int plan()", "int run(int)", "int undo()", "int write(int)", "int wipe()",
            "int fault(int)", "int told(int)", "int setting(int)", "int chest(int,int)", "int account(int)",
            "int paper(int)", "int entry(int,int)", "float paperShare()", "int later(int,int)", "int overflow()",
            "int bestLimit(int)", "int keep(int)", "int back(int)");
    private static final Set<String> CONSTANTS = Set.of("BAD", "STATE", "FULL", "NONE");

    public static void main(String[] args) {
        int modifiers = BrokeLoop.class.getModifiers();
        Checks.holds("the class is public and final", Modifier.isPublic(modifiers) && Modifier.isFinal(modifiers));
        constants();
        methods();
        constructors();
        for (Class<?> inside : BrokeLoop.class.getDeclaredClasses()) {
            Checks.holds(inside + " is static and not public", Modifier.isStatic(inside.getModifiers())
                    && !Modifier.isPublic(inside.getModifiers()) && !Modifier.isProtected(inside.getModifiers()));
        }
        Checks.end("FaceTest");
    }

    private static void constants() {
        Checks.due("BAD", BrokeLoop.BAD, -1);
        Checks.due("STATE", BrokeLoop.STATE, -2);
        Checks.due("FULL", BrokeLoop.FULL, -3);
        Checks.due("NONE", BrokeLoop.NONE, -9);
        Set<String> seen = new TreeSet<>();
        for (Field field : BrokeLoop.class.getDeclaredFields()) {
            if (!Modifier.isPrivate(field.getModifiers())) {
                seen.add(field.getName());
                Checks.holds(field + " is a public constant of int", field.getType() == int.class
                        && field.getModifiers() == (Modifier.PUBLIC | Modifier.STATIC | Modifier.FINAL));
            }
        }
        Checks.holds("the constants are those of the document: " + seen, seen.equals(CONSTANTS));
    }

    private static void methods() {
        Set<String> seen = new TreeSet<>();
        for (Method method : BrokeLoop.class.getDeclaredMethods()) {
            if (!Modifier.isPrivate(method.getModifiers())) {
                String text = method.toString();
                seen.add(method.getReturnType() + " " + text.substring(text.indexOf("BrokeLoop.") + 10));
                Checks.holds(method + " is public alone", method.getModifiers() == Modifier.PUBLIC);
            }
        }
        Checks.holds("the methods are those of the document: " + seen, seen.equals(METHODS));
    }

    private static void constructors() {
        Constructor<?>[] all = BrokeLoop.class.getDeclaredConstructors();
        Checks.due("constructors", all.length, 1);
        Checks.holds("the constructor is public and takes nothing", all.length == 1
                && Modifier.isPublic(all[0].getModifiers()) && all[0].getParameterCount() == 0);
    }
}
