import java.lang.reflect.Constructor;
import java.lang.reflect.Field;
import java.lang.reflect.Member;
import java.lang.reflect.Method;
import java.lang.reflect.Modifier;
import java.util.List;
import java.util.Set;
import java.util.TreeSet;

/** "The public face" of the document, and rule 1 of LANGUAGE.md: it is all there, word for word, and nothing else. */
public final class FaceTest {
    private static final List<String> FACE = List.of(
            "public static final int FETCH",
            "public static final int LOAD",
            "public static final int STORE",
            "public PageWalker()",
            "public long word(long) throws IndexOutOfBoundsException",
            "public void put(long,long) throws IndexOutOfBoundsException",
            "public long table()",
            "public void setTable(long) throws IllegalArgumentException",
            "public void rights(boolean,boolean)",
            "public long configs()",
            "public void setConfigs(long)",
            "public long number(int) throws IndexOutOfBoundsException",
            "public void setNumber(int,long) throws IndexOutOfBoundsException",
            "public long find(long,int,int,int) throws IllegalArgumentException",
            "public boolean allows(long,int,int,int) throws IllegalArgumentException",
            "public void fence()");
    private static final List<String> METHODS = List.of("word", "put", "table", "setTable", "rights", "configs",
            "setConfigs", "number", "setNumber", "find", "allows", "fence");

    public static void main(String[] args) {
        Due due = new Due();
        due.sentence("The public face", FaceTest::face);
        due.sentence("public static final int FETCH = 0, LOAD = 1, STORE = 2;", FaceTest::constants);
        due.sentence("public final class PageWalker", FaceTest::theClass);
        due.sentence("No private method bears the name of a public one", FaceTest::privateNames);
        due.sentence("the classes inside it, which are private or package-visible and static", FaceTest::classesInside);
        due.end();
    }

    private static void face(Due due) {
        Set<String> seen = new TreeSet<>();
        for (Field field : PageWalker.class.getDeclaredFields()) {
            keep(seen, field, field.toString());
        }
        for (Constructor<?> made : PageWalker.class.getDeclaredConstructors()) {
            keep(seen, made, made.toString());
        }
        for (Method method : PageWalker.class.getDeclaredMethods()) {
            keep(seen, method, method.toString());
        }
        for (String member : FACE) {
            due.same(member + " is there", seen.remove(member), true);
        }
        due.same("members that the document does not have: " + seen, seen.size(), 0);
    }

    private static void keep(Set<String> seen, Member member, String words) {
        if (!Modifier.isPrivate(member.getModifiers()) && !member.isSynthetic()) {
            seen.add(words.replace("PageWalker.", "").replace("java.lang.", ""));
        }
    }

    private static void constants(Due due) {
        due.same("FETCH", PageWalker.FETCH, 0);
        due.same("LOAD", PageWalker.LOAD, 1);
        due.same("STORE", PageWalker.STORE, 2);
    }

    private static void theClass(Due due) {
        due.same("its modifiers", PageWalker.class.getModifiers(), Modifier.PUBLIC | Modifier.FINAL);
        due.same("it extends Object", PageWalker.class.getSuperclass() == Object.class, true);
        due.same("interfaces that it implements", PageWalker.class.getInterfaces().length, 0);
        due.same("it has no package", PageWalker.class.getPackageName().isEmpty(), true);
    }

    private static void privateNames(Due due) {
        for (Method method : PageWalker.class.getDeclaredMethods()) {
            if (Modifier.isPrivate(method.getModifiers())) {
                due.same(method.getName() + " is a name of the face", METHODS.contains(method.getName()), false);
            }
        }
    }

    private static void classesInside(Due due) {
        due.same("the file has some twelve classes at most", PageWalker.class.getDeclaredClasses().length < 12, true);
        for (Class<?> inside : PageWalker.class.getDeclaredClasses()) {
            int bits = inside.getModifiers();
            due.same(inside + " is static", Modifier.isStatic(bits), true);
            due.same(inside + " is public or protected", Modifier.isPublic(bits) || Modifier.isProtected(bits), false);
        }
    }
}
