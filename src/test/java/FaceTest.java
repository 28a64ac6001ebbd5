import java.lang.reflect.Constructor;
import java.lang.reflect.Field;
import java.lang.reflect.Member;
import java.lang.reflect.Method;
import java.lang.reflect.Modifier;
import java.util.Set;
import java.util.TreeSet;

/** "The public face" of the document, and rule 1 of LANGUAGE.md: it is all there, and nothing else. */
public final class FaceTest {
    private static final Set<String> FACE = Set.of(
            "FETCH", "LOAD", "STORE", "PageWalker()",
            "long word(long)", "void put(long,long)", "long table()", "void setTable(long)",
            "void rights(boolean,boolean)", "long configs()", "void setConfigs(long)", "long number(int)",
            "void setNumber(int,long)", "long find(long,int,int,int)", "boolean allows(long,int,int,int)",
            "void fence()");

    public static void main(String[] args) {
        Due due = new Due();
        Set<String> seen = new TreeSet<>();
        for (Field field : PageWalker.class.getDeclaredFields()) {
            keep(seen, field, field.getName());
        }
        for (Constructor<?> made : PageWalker.class.getDeclaredConstructors()) {
            keep(seen, made, "PageWalker" + types(made.getParameterTypes()));
        }
        Set<String> privateNames = new TreeSet<>();
        for (Method method : PageWalker.class.getDeclaredMethods()) {
            keep(seen, method, method.getReturnType() + " " + method.getName() + types(method.getParameterTypes()));
            if (Modifier.isPrivate(method.getModifiers())) {
                privateNames.add(method.getName());
            }
        }
        due.same("the face is " + seen, seen.equals(FACE), true);
        for (String member : FACE) {
            due.same("a private method has the name of " + member,
                    privateNames.contains(member.replaceAll("^.* |\\(.*$", "")), false);
        }
        due.same("the class is public and final", PageWalker.class.getModifiers(), Modifier.PUBLIC | Modifier.FINAL);
        due.same("FETCH", PageWalker.FETCH, 0);
        due.same("LOAD", PageWalker.LOAD, 1);
        due.same("STORE", PageWalker.STORE, 2);
        due.end();
    }

    private static void keep(Set<String> seen, Member member, String name) {
        if (!Modifier.isPrivate(member.getModifiers()) && !member.isSynthetic()) {
            seen.add(Modifier.isPublic(member.getModifiers()) ? name : "not public: " + name);
        }
    }

    private static String types(Class<?>[] types) {
        StringBuilder text = new StringBuilder("(");
        for (Class<?> type : types) {
            text.append(text.length() > 1 ? "," : "").append(type.getName());
        }
        return text.append(")").toString();
    }
}
