import java.lang.reflect.Constructor;
import java.lang.reflect.Field;
import java.lang.reflect.Method;
import java.lang.reflect.Modifier;
import java.util.ArrayList;
import java.util.List;
import java.util.Set;
import java.util.TreeSet;

/** The class has the document's face, and nothing else that can be seen from outside. */
public final class FaceTest {
    private static final String[] FACE = {
        "DynamicNeeds(int)",
        "int NONE",
        "int file(long)",
        "boolean change(int,boolean,long)",
        "int action(int)",
        "boolean makes(int,int)",
        "boolean row(int,int,int)",
        "int run(int)",
        "int resolve(int)",
        "int ring(int)",
        "int waits(int)",
        "boolean fresh(int)",
        "int kept(int,int,int)",
        "int unused(int)",
        "long digest(int)",
        "int counted(int,int)",
        "int members(int)",
        "int mapping(int,long)",
        "int map(int)",
        "long result(int,int)",
    };

    public static void main(String[] args) {
        Check.part("face");
        Set<String> due = new TreeSet<>(Set.of(FACE));
        Set<String> seen = new TreeSet<>();
        for (Constructor<?> c : DynamicNeeds.class.getDeclaredConstructors()) {
            note(seen, c.getModifiers(), "DynamicNeeds" + types(c.getParameterTypes()));
        }
        for (Field f : DynamicNeeds.class.getDeclaredFields()) {
            note(seen, f.getModifiers(), f.getType() + " " + f.getName());
        }
        for (Method m : DynamicNeeds.class.getDeclaredMethods()) {
            note(seen, m.getModifiers(), m.getReturnType() + " " + m.getName() + types(m.getParameterTypes()));
        }
        if (!seen.equals(due)) {
            Check.tell("seen " + seen + ", due is " + due);
        }
        Check.due("final", Modifier.isFinal(DynamicNeeds.class.getModifiers()), true);
        Check.due("NONE", DynamicNeeds.NONE, -1);
        Check.end();
    }

    static List<Method> publicMethods() {
        List<Method> methods = new ArrayList<>();
        for (Method m : DynamicNeeds.class.getDeclaredMethods()) {
            if (Modifier.isPublic(m.getModifiers())) {
                methods.add(m);
            }
        }
        return methods;
    }

    private static void note(Set<String> seen, int modifiers, String member) {
        if (Modifier.isPrivate(modifiers)) {
            return;
        }
        seen.add(member);
        Check.due("public " + member, Modifier.isPublic(modifiers), true);
    }

    private static String types(Class<?>[] types) {
        StringBuilder text = new StringBuilder("(");
        for (Class<?> type : types) {
            text.append(text.length() > 1 ? "," : "").append(type);
        }
        return text.append(")").toString();
    }
}
