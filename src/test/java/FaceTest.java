import java.lang.reflect.Constructor;
import java.lang.reflect.Field;
import java.lang.reflect.Method;
import java.lang.reflect.Modifier;
import java.util.Arrays;
import java.util.TreeSet;

/** The public face: just what the document lists, and nothing else that can be seen from outside. */
public final class FaceTest {
    private static final String[] FACE = {
        "public static final long NONE",
        "public static final long FAULT",
        "public EnclaveGuards(int)",
        "public long load(int,int)",
        "public int store(int,int,int)",
        "public int denied()",
        "public boolean give(int,int,int)",
        "public long register(int,int)",
        "public int create(int,int,int,int,int)",
        "public int run(int,int,int)",
        "public int step(int,int)",
        "public int interrupt(int)",
        "public int destroy(int,int)",
        "public int state(int)",
        "public long released(int)",
        "public long measurement(int)",
        "public boolean verify(int,int,int)",
        "public int running(int)",
        "public int owner(int)",
        "public int guard(int,int,int)",
    };

    public static void main(String[] args) {
        Due due = new Due();
        due.sentence("The public face");
        due.is("NONE", EnclaveGuards.NONE, 1L << 40);
        due.is("FAULT", EnclaveGuards.FAULT, (1L << 40) + 1);
        due.holds("the class is public and final", Modifier.isPublic(EnclaveGuards.class.getModifiers())
            && Modifier.isFinal(EnclaveGuards.class.getModifiers()));
        TreeSet<String> want = new TreeSet<>(Arrays.asList(FACE));
        TreeSet<String> got = visibleMembers();
        due.holds("the face is " + want + " and not " + got, want.equals(got));
        due.holds("no private method bears a public one's name", namesAreApart());
        due.finish();
    }

    private static TreeSet<String> visibleMembers() {
        TreeSet<String> seen = new TreeSet<>();
        for (Field f : EnclaveGuards.class.getDeclaredFields()) {
            if (!Modifier.isPrivate(f.getModifiers())) {
                seen.add(Modifier.toString(f.getModifiers()) + " " + f.getType().getSimpleName() + " " + f.getName());
            }
        }
        for (Constructor<?> c : EnclaveGuards.class.getDeclaredConstructors()) {
            if (!Modifier.isPrivate(c.getModifiers())) {
                seen.add(Modifier.toString(c.getModifiers()) + " EnclaveGuards" + parameters(c.getParameterTypes()));
            }
        }
        for (Method m : EnclaveGuards.class.getDeclaredMethods()) {
            if (!Modifier.isPrivate(m.getModifiers())) {
                seen.add(Modifier.toString(m.getModifiers()) + " " + m.getReturnType().getSimpleName() + " "
                    + m.getName() + parameters(m.getParameterTypes()));
            }
        }
        return seen;
    }

    private static String parameters(Class<?>[] types) {
        StringBuilder text = new StringBuilder("(");
        for (int k = 0; k < types.length; k++) {
            text.append(k == 0 ? "" : ",").append(types[k].getSimpleName());
        }
        return text.append(")").toString();
    }

    private static boolean namesAreApart() {
        TreeSet<String> open = new TreeSet<>();
        TreeSet<String> closed = new TreeSet<>();
        for (Method m : EnclaveGuards.class.getDeclaredMethods()) {
            (Modifier.isPrivate(m.getModifiers()) ? closed : open).add(m.getName());
        }
        closed.retainAll(open);
        return closed.isEmpty();
    }
}
