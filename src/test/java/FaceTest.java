import java.lang.reflect.Constructor;
import java.lang.reflect.Field;
import java.lang.reflect.Member;
import java.lang.reflect.Method;
import java.lang.reflect.Modifier;
import java.util.Set;
import java.util.TreeSet;

/** The public face is the document's, and nothing else of the class is open. */
public final class FaceTest {
    private static final Set<String> FACE = Set.of(
            "public StorageCosts()",
            "public int StorageCosts.begin()",
            "public int StorageCosts.open() throws java.lang.IndexOutOfBoundsException",
            "public int StorageCosts.close(boolean) throws java.lang.IllegalStateException",
            "public int StorageCosts.load(int,int) throws java.lang.IllegalArgumentException",
            "public int StorageCosts.store(int,int,long,int) throws "
                    + "java.lang.IllegalArgumentException,java.lang.IllegalStateException",
            "public long StorageCosts.held(int,int,boolean) throws java.lang.IllegalArgumentException",
            "public boolean StorageCosts.touched(int,int) throws java.lang.IllegalArgumentException",
            "public int StorageCosts.count(int) throws java.lang.IllegalArgumentException");

    public static void main(String[] args) {
        Check check = new Check();
        check.due("modifiers of the class", Modifier.PUBLIC | Modifier.FINAL,
                StorageCosts.class.getModifiers());
        check.due("what is not private", new TreeSet<>(FACE), openMembers());
        check.due("fields that are static and not final", Set.of(), looseStatics());
        check.end();
    }

    private static Set<String> openMembers() {
        Set<String> open = new TreeSet<>();
        for (Constructor<?> c : StorageCosts.class.getDeclaredConstructors()) {
            addIfOpen(open, c, c.toString());
        }
        for (Method m : StorageCosts.class.getDeclaredMethods()) {
            addIfOpen(open, m, m.toString());
        }
        for (Field f : StorageCosts.class.getDeclaredFields()) {
            addIfOpen(open, f, f.toString());
        }
        return open;
    }

    private static void addIfOpen(Set<String> open, Member member, String text) {
        if (!Modifier.isPrivate(member.getModifiers())) {
            open.add(text);
        }
    }

    private static Set<String> looseStatics() {
        Set<String> loose = new TreeSet<>();
        for (Field f : StorageCosts.class.getDeclaredFields()) {
            if (Modifier.isStatic(f.getModifiers()) && !Modifier.isFinal(f.getModifiers())) {
                loose.add(f.toString());
            }
        }
        return loose;
    }
}
