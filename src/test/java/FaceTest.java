import java.lang.reflect.Constructor;
import java.lang.reflect.Field;
import java.lang.reflect.Member;
import java.lang.reflect.Method;
import java.lang.reflect.Modifier;
import java.util.ArrayList;
import java.util.List;
import java.util.Set;
import java.util.TreeSet;

/** The public face is the document's, and nothing else of the class is open. */
public final class FaceTest {
    private static final Set<String> FACE = Set.of(
            "public StorageCosts()",
            "public int StorageCosts.begin()",
            "public int StorageCosts.open() throws java.lang.IndexOutOfBoundsException",
            "public int StorageCosts.close(boolean) throws java.lang.IllegalStateException",
            "public int StorageCosts.load(int,int) throws java.lang.IllegalArgumentException",
            "public int StorageCosts.store(int,int,long,int) throws "
                    + "java.lang.IllegalArgumentException,java.lang.IllegalStateException",
            "public long StorageCosts.held(int,int,boolean) throws java.lang.IllegalArgumentException",
            "public boolean StorageCosts.touched(int,int) throws java.lang.IllegalArgumentException",
            "public int StorageCosts.count(int) throws java.lang.IllegalArgumentException");

    public static void main(String[] args) {
        Check check = new Check();
        check.due("modifiers of the class", Modifier.PUBLIC | Modifier.FINAL,
                StorageCosts.class.getModifiers());
        check.due("what is not private", new TreeSet<>(FACE), openMembers());
        check.due("fields that are static and not final", Set.of(), looseStatics());
        check.due("private methods named as one of the face", Set.of(), borrowedNames());
        check.due("classes inside that are open or not static", Set.of(), looseClasses());
        check.end();
    }

    private static Set<String> openMembers() {
        Set<String> open = new TreeSet<>();
        for (Constructor<?> c : StorageCosts.class.getDeclaredConstructors()) {
            addIfOpen(open, c, c.toString());
        }
        for (Method m : StorageCosts.class.getDeclaredMethods()) {
            addIfOpen(open, m, m.toString());
        }
        for (Field f : StorageCosts.class.getDeclaredFields()) {
            addIfOpen(open, f, f.toString());
        }
        return open;
    }

    private static void addIfOpen(Set<String> open, Member member, String text) {
        if (!Modifier.isPrivate(member.getModifiers())) {
            open.add(text);
        }
    }

    private static Set<String> looseStatics() {
        Set<String> loose = new TreeSet<>();
        for (Field f : StorageCosts.class.getDeclaredFields()) {
            if (Modifier.isStatic(f.getModifiers()) && !Modifier.isFinal(f.getModifiers())) {
                loose.add(f.toString());
            }
        }
        return loose;
    }

    private static Set<String> borrowedNames() {
        Set<String> borrowed = new TreeSet<>();
        for (Class<?> c : classes()) {
            for (Method m : c.getDeclaredMethods()) {
                if (Modifier.isPrivate(m.getModifiers()) && isNameOfFace(m.getName())) {
                    borrowed.add(m.toString());
                }
            }
        }
        return borrowed;
    }

    private static boolean isNameOfFace(String name) {
        return FACE.stream().anyMatch(member -> member.contains("." + name + "("));
    }

    private static Set<String> looseClasses() {
        Set<String> loose = new TreeSet<>();
        for (Class<?> c : StorageCosts.class.getDeclaredClasses()) {
            int modifiers = c.getModifiers();
            if (Modifier.isPublic(modifiers) || Modifier.isProtected(modifiers) || !Modifier.isStatic(modifiers)) {
                loose.add(c.getName());
            }
        }
        return loose;
    }

    private static List<Class<?>> classes() {
        List<Class<?>> all = new ArrayList<>(List.of(StorageCosts.class.getDeclaredClasses()));
        all.add(StorageCosts.class);
        return all;
    }
}
