import java.lang.reflect.Constructor;
import java.lang.reflect.Field;
import java.lang.reflect.Method;
import java.lang.reflect.Modifier;
import java.util.Set;
import java.util.TreeSet;

/** The public face of the document, and no other (rule 1 of LANGUAGE.md). */
public final class FaceTest {
    private static final String[] METHODS = {
        "boolean crash(int)", "boolean recover(int)", "int elect(int)", "int ship(int,int)",
        "int change(int,int,int,int)", "int request(int,int,int,int,int,int)", "int poll(int,int)",
        "int pull(int,int,int)", "int confirm(int,int,int)", "int length(int)", "int known(int)",
        "int term(int)", "int configuration(int)", "int owner(int,int,int)", "int condition(int,int)",
        "int value(int,int)", "int latest(int,int,int)", "int answer(int,int,int)"};

    public static void main(String[] args) throws Exception {
        Dues dues = new Dues();
        testConstants(dues);
        testMembers(dues);
        testClassesInside(dues);
        dues.end();
    }

    private static void testConstants(Dues dues) throws Exception {
        String[] names = {"NONE", "FOLLOWS", "FULL", "EARLY", "STALE"};
        for (int i = 0; i < names.length; i++) {
            Field field = ShardGroups.class.getField(names[i]);
            dues.due(names[i], field.getInt(null), -1 - i);
            dues.due(names[i] + " is a constant",
                    Modifier.isStatic(field.getModifiers()) && Modifier.isFinal(field.getModifiers()), true);
        }
        int visible = 0;
        for (Field field : ShardGroups.class.getDeclaredFields()) {
            visible += Modifier.isPrivate(field.getModifiers()) ? 0 : 1;
        }
        dues.due("visible fields", visible, names.length);
    }

    private static void testMembers(Dues dues) {
        int modifiers = ShardGroups.class.getModifiers();
        dues.due("public and final", Modifier.isPublic(modifiers) && Modifier.isFinal(modifiers), true);
        Constructor<?>[] constructors = ShardGroups.class.getDeclaredConstructors();
        dues.due("constructors", constructors.length, 1);
        dues.due("its parameters", constructors[0].getParameterCount(), 0);
        dues.due("it is public", Modifier.isPublic(constructors[0].getModifiers()), true);
        Set<String> seen = new TreeSet<>();
        for (Method method : ShardGroups.class.getDeclaredMethods()) {
            if (!Modifier.isPrivate(method.getModifiers())) {
                seen.add(describe(method));
            }
        }
        dues.due("visible methods " + seen, seen.equals(Set.of(METHODS)), true);
    }

    private static void testClassesInside(Dues dues) {
        Set<String> names = new TreeSet<>();
        for (String method : METHODS) {
            names.add(method.substring(method.indexOf(' ') + 1, method.indexOf('(')));
        }
        for (Class<?> inside : ShardGroups.class.getDeclaredClasses()) {
            dues.due(inside + " is static", Modifier.isStatic(inside.getModifiers()), true);
            dues.due(inside + " is public", Modifier.isPublic(inside.getModifiers()), false);
            testPrivateNames(dues, inside, names);
        }
        testPrivateNames(dues, ShardGroups.class, names);
    }

    private static void testPrivateNames(Dues dues, Class<?> type, Set<String> names) {
        for (Method method : type.getDeclaredMethods()) {
            if (Modifier.isPrivate(method.getModifiers())) {
                dues.due(method + " bears a public name", names.contains(method.getName()), false);
            }
        }
    }

    private static String describe(Method method) {
        StringBuilder text = new StringBuilder();
        text.append(method.getReturnType()).append(' ').append(method.getName()).append('(');
        for (int i = 0; i < method.getParameterCount(); i++) {
            text.append(i == 0 ? "" : ",").append(method.getParameterTypes()[i]);
        }
        return text.append(')').toString();
    }
}
