import java.lang.reflect.Constructor;
import java.lang.reflect.Field;
import java.lang.reflect.Method;
import java.lang.reflect.Modifier;
import java.util.Set;
import java.util.TreeSet;

/** The public face is the document's and nothing else (rules 1 and 5 of LANGUAGE.md). */
public final class FaceTest {
    private static final Set<String> FACE = Set.of(
            "int NONE", "int OWNER", "DelegationClosure()",
            "int name(int,int,int,int,int)", "int permit(int,int,boolean,int,int)",
            "boolean tag(int,int,int,int)", "int also(int,int)", "boolean quorum(int,int)",
            "boolean revoke(int)", "int certificates()", "int meant(int,int)",
            "int cost(int,int,int)", "int may(int,int,int,int)", "int holders(int,int,int)",
            "boolean begin(int)", "boolean follow(int)", "int head()", "int behind(int)",
            "boolean grants(int,int,int)", "int used()", "boolean delegates()");

    public static void main(String[] args) {
        Due due = new Due();
        Class<?> face = DelegationClosure.class;
        due.is("the class is public and final",
                Modifier.isPublic(face.getModifiers()) && Modifier.isFinal(face.getModifiers()), true);
        due.is("NONE", DelegationClosure.NONE, -1);
        due.is("OWNER", DelegationClosure.OWNER, 8);
        Set<String> seen = visibleMembers(face);
        for (String member : FACE) {
            due.is("there is " + member, seen.contains(member), true);
        }
        for (String member : seen) {
            due.is(member + " is in the document", FACE.contains(member), true);
        }
        checkPrivateNames(due, face);
        checkStaticFields(due, face);
        for (Class<?> inside : face.getDeclaredClasses()) {
            due.is(inside + " is static", Modifier.isStatic(inside.getModifiers()), true);
            due.is(inside + " is not public", Modifier.isPublic(inside.getModifiers()), false);
            checkStaticFields(due, inside);
        }
        due.end();
    }

    private static Set<String> visibleMembers(Class<?> face) {
        Set<String> seen = new TreeSet<>();
        for (Field field : face.getDeclaredFields()) {
            if (!Modifier.isPrivate(field.getModifiers())) {
                seen.add(field.getType() + " " + field.getName());
            }
        }
        for (Constructor<?> constructor : face.getDeclaredConstructors()) {
            seen.add(face.getName() + parameters(constructor.getParameterTypes()));
        }
        for (Method method : face.getDeclaredMethods()) {
            if (!Modifier.isPrivate(method.getModifiers())) {
                String parameters = parameters(method.getParameterTypes());
                seen.add(method.getReturnType() + " " + method.getName() + parameters);
            }
        }
        return seen;
    }

    private static String parameters(Class<?>[] types) {
        StringBuilder text = new StringBuilder("(");
        for (int i = 0; i < types.length; i++) {
            text.append(i == 0 ? "" : ",").append(types[i].getName());
        }
        return text.append(")").toString();
    }

    private static void checkPrivateNames(Due due, Class<?> face) {
        Set<String> names = new TreeSet<>();
        for (Method method : face.getDeclaredMethods()) {
            due.is("one method has the name " + method.getName(), names.add(method.getName()), true);
        }
    }

    private static void checkStaticFields(Due due, Class<?> type) {
        for (Field field : type.getDeclaredFields()) {
            int modifiers = field.getModifiers();
            if (Modifier.isStatic(modifiers)) {
                due.is(field + " is final", Modifier.isFinal(modifiers), true);
            }
        }
    }

    private FaceTest() {
    }
}
