import java.lang.reflect.Constructor;
import java.lang.reflect.Field;
import java.lang.reflect.Method;
import java.lang.reflect.Modifier;
import java.util.Set;
import java.util.TreeSet;

/** The public face is the document's, and nothing else can be seen from outside. */
public final class FaceTest {
    private static final Set<String> FACE = Set.of(
        "int NONE", "int BAD", "new(int,int,int,int)",
        "int handle(int)", "int ground(int)", "int channel(int,int,int)", "int cylinder(int,int)",
        "int valve(int,int)", "int stick(int)", "int module(int,int)", "int run(int)", "int settle(int)",
        "int plant(int)", "int about(int,int)", "int sees(int,int,int)", "int tells(int,int)",
        "int lights()", "int log(int,int)", "int logged()", "int bound()", "boolean safe()");

    public static void main(String[] args) {
        Set<String> found = new TreeSet<>();
        for (Field f : LandingGears.class.getDeclaredFields()) {
            add(found, f.getModifiers(), f.getType().getName() + " " + f.getName());
        }
        for (Constructor<?> c : LandingGears.class.getDeclaredConstructors()) {
            add(found, c.getModifiers(), "new" + arguments(c.getParameterTypes()));
        }
        for (Method m : LandingGears.class.getDeclaredMethods()) {
            add(found, m.getModifiers(), m.getReturnType().getName() + " " + m.getName() + arguments(m.getParameterTypes()));
        }
        for (String member : FACE) {
            Due.is("the document's " + member, found.contains(member), true);
        }
        for (String member : found) {
            Due.is("in the document: " + member, FACE.contains(member), true);
        }
        int modifiers = LandingGears.class.getModifiers();
        Due.is("public and final", Modifier.isPublic(modifiers) && Modifier.isFinal(modifiers), true);
        for (Class<?> inside : LandingGears.class.getDeclaredClasses()) {
            Due.is("static: " + inside, Modifier.isStatic(inside.getModifiers()), true);
            Due.is("not public: " + inside, Modifier.isPublic(inside.getModifiers()), false);
        }
        Due.end();
    }

    private static void add(Set<String> found, int modifiers, String member) {
        if (!Modifier.isPrivate(modifiers)) {
            found.add(member);
        }
    }

    private static String arguments(Class<?>[] types) {
        StringBuilder text = new StringBuilder("(");
        for (Class<?> type : types) {
            text.append(text.length() > 1 ? "," : "").append(type.getName());
        }
        return text.append(")").toString();
    }
}
