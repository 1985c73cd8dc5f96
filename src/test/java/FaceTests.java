import java.lang.reflect.Constructor;
import java.lang.reflect.Field;
import java.lang.reflect.Method;
import java.lang.reflect.Modifier;
import java.util.Arrays;
import java.util.Set;
import java.util.TreeSet;

/** The class shows the document's face and nothing else, and keeps no state outside its objects. */
public final class FaceTests {
    private static final Set<String> FACE = new TreeSet<>(Arrays.asList(
            "public int ChainSums.piece(int,long,long)",
            "public int ChainSums.chain()",
            "public int ChainSums.add(int,int,boolean)",
            "public long ChainSums.worst(int,boolean)",
            "public long ChainSums.best(int,boolean)",
            "public int ChainSums.clock(int,long,long)",
            "public int ChainSums.wish(int,long)",
            "public int ChainSums.share(int,int)",
            "public long ChainSums.cycle(int) throws java.lang.ArithmeticException",
            "public long ChainSums.stepped(int)",
            "public boolean ChainSums.plain(int)"));
    private static int wrong = 0;

    public static void main(String[] args) {
        theClass();
        methods();
        constructors();
        fields(ChainSums.class);
        insideClasses();
        System.out.println(wrong == 0 ? "the face is the document's" : wrong + " faults in the face");
        if (wrong != 0) {
            System.exit(1);
        }
    }

    private static void must(boolean holds, String what) {
        if (!holds) {
            wrong++;
            System.out.println("not so: " + what);
        }
    }

    private static void theClass() {
        int modifiers = ChainSums.class.getModifiers();
        must(Modifier.isPublic(modifiers) && Modifier.isFinal(modifiers), "the class is public and final");
    }

    private static void methods() {
        Set<String> seen = new TreeSet<>();
        Set<String> publicNames = new TreeSet<>();
        Set<String> privateNames = new TreeSet<>();
        for (Method m : ChainSums.class.getDeclaredMethods()) {
            if (Modifier.isPrivate(m.getModifiers())) {
                privateNames.add(m.getName());
            } else {
                seen.add(m.toString());
                publicNames.add(m.getName());
            }
        }
        must(seen.equals(FACE), "the methods of the face are " + FACE + ", seen " + seen);
        privateNames.retainAll(publicNames);
        must(privateNames.isEmpty(), "no private method bears a public one's name: " + privateNames);
    }

    private static void constructors() {
        Constructor<?>[] all = ChainSums.class.getDeclaredConstructors();
        must(all.length == 1 && all[0].toString().equals("public ChainSums()"), "one public constructor");
    }

    private static void fields(Class<?> c) {
        for (Field f : c.getDeclaredFields()) {
            must(Modifier.isPrivate(f.getModifiers()), f + " is private");
            must(!Modifier.isStatic(f.getModifiers()) || Modifier.isFinal(f.getModifiers()), f + " is final if static");
        }
    }

    private static void insideClasses() {
        for (Class<?> c : ChainSums.class.getDeclaredClasses()) {
            must(!Modifier.isPublic(c.getModifiers()) && !Modifier.isProtected(c.getModifiers()), c + " is not shown");
            must(Modifier.isStatic(c.getModifiers()), c + " is static");
            fields(c);
        }
    }
}
