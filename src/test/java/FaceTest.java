import java.lang.reflect.Constructor;
import java.lang.reflect.Field;
import java.lang.reflect.Method;
import java.lang.reflect.Modifier;
import java.util.Set;
import java.util.TreeSet;

/** The class shows the document's face, whole, and nothing else. */
public final class FaceTest {
    private static final String[] FACE = {
        "public static final int NONE",
        "public Cardcabinet()",
        "public int type(long) throws IllegalStateException",
        "public int clearText()",
        "public int fault()",
        "public int lay(int) throws IndexOutOfBoundsException, IllegalStateException",
        "public int put(int, int, int, int) throws IndexOutOfBoundsException, IllegalStateException",
        "public int setSeed(int)",
        "public int sort(int) throws IndexOutOfBoundsException",
        "public int sortAll()",
        "public int sortPart(int, int, int) throws IndexOutOfBoundsException, IllegalArgumentException",
        "public int sortDown(int, int, int) throws IndexOutOfBoundsException, IllegalArgumentException",
        "public int sortBySecond(int) throws IndexOutOfBoundsException",
        "public int sortByBoth(int) throws IndexOutOfBoundsException",
        "public int pour(int, int) throws IndexOutOfBoundsException, IllegalArgumentException, IllegalStateException",
        "public int deal(int, int) throws IndexOutOfBoundsException, IllegalArgumentException, IllegalStateException",
        "public int turn(int) throws IndexOutOfBoundsException",
        "public int move(int, int, int) throws IndexOutOfBoundsException",
        "public int thin(int, int) throws IndexOutOfBoundsException",
        "public int single(int) throws IndexOutOfBoundsException",
        "public int empty(int) throws IndexOutOfBoundsException",
        "public int keep(int) throws IndexOutOfBoundsException",
        "public int restore(int) throws IndexOutOfBoundsException, IllegalStateException",
        "public int count(int) throws IndexOutOfBoundsException",
        "public int cardAt(int, int, int) throws IndexOutOfBoundsException, IllegalArgumentException",
        "public int placeOf(int, int) throws IndexOutOfBoundsException",
        "public int placeFor(int, int) throws IndexOutOfBoundsException, IllegalStateException",
        "public boolean isSorted(int) throws IndexOutOfBoundsException",
        "public int runs(int) throws IndexOutOfBoundsException",
        "public int longestRun(int) throws IndexOutOfBoundsException",
        "public int wrongPairs(int) throws IndexOutOfBoundsException",
        "public int unlike(int) throws IndexOutOfBoundsException",
        "public long sum(int) throws IndexOutOfBoundsException",
        "public int compare(int, int) throws IndexOutOfBoundsException",
        "public int middle(int) throws IndexOutOfBoundsException, NoSuchElementException",
        "public double mean(int) throws IndexOutOfBoundsException",
        "public float risingShare(int) throws IndexOutOfBoundsException",
        "public int errors()",
    };

    private static String list(Class<?>[] types) {
        StringBuilder text = new StringBuilder();
        for (Class<?> type : types) {
            text.append(text.length() == 0 ? "" : ", ").append(type.getSimpleName());
        }
        return text.toString();
    }

    private static String told(int modifiers, String rest, Class<?>[] thrown) {
        return Modifier.toString(modifiers) + " " + rest + (thrown.length == 0 ? "" : " throws " + list(thrown));
    }

    private static Set<String> shownMembers() {
        Set<String> shown = new TreeSet<>();
        for (Field f : Cardcabinet.class.getDeclaredFields()) {
            if (!Modifier.isPrivate(f.getModifiers())) {
                shown.add(told(f.getModifiers(), f.getType().getSimpleName() + " " + f.getName(), new Class<?>[0]));
            }
        }
        for (Constructor<?> c : Cardcabinet.class.getDeclaredConstructors()) {
            shown.add(told(c.getModifiers(), "Cardcabinet(" + list(c.getParameterTypes()) + ")", c.getExceptionTypes()));
        }
        for (Method m : Cardcabinet.class.getDeclaredMethods()) {
            if (!Modifier.isPrivate(m.getModifiers())) {
                String rest = m.getReturnType().getSimpleName() + " " + m.getName() + "(" + list(m.getParameterTypes()) + ")";
                shown.add(told(m.getModifiers(), rest, m.getExceptionTypes()));
            }
        }
        return shown;
    }

    private static int wrongNames() {
        int wrong = 0;
        Set<String> publicNames = new TreeSet<>();
        for (Method m : Cardcabinet.class.getMethods()) {
            publicNames.add(m.getName());
        }
        for (Method m : Cardcabinet.class.getDeclaredMethods()) {
            if (Modifier.isPrivate(m.getModifiers()) && publicNames.contains(m.getName())) {
                System.out.println("a private method bears the name of a public one: " + m.getName());
                wrong++;
            }
        }
        for (Class<?> inside : Cardcabinet.class.getDeclaredClasses()) {
            int modifiers = inside.getModifiers();
            if (!Modifier.isStatic(modifiers) || Modifier.isPublic(modifiers) || Modifier.isProtected(modifiers)) {
                System.out.println("a class inside is not as the rules ask: " + inside.getName());
                wrong++;
            }
        }
        return wrong;
    }

    public static void main(String[] args) {
        int wrong = wrongNames();
        Set<String> due = new TreeSet<>(Set.of(FACE));
        Set<String> shown = shownMembers();
        for (String member : due) {
            if (!shown.contains(member)) {
                System.out.println("is not there: " + member);
                wrong++;
            }
        }
        for (String member : shown) {
            if (!due.contains(member)) {
                System.out.println("is not in the document: " + member);
                wrong++;
            }
        }
        if (!Modifier.isPublic(Cardcabinet.class.getModifiers()) || !Modifier.isFinal(Cardcabinet.class.getModifiers())) {
            System.out.println("the class is not public and final");
            wrong++;
        }
        if (Cardcabinet.NONE != -1) {
            System.out.println("NONE is not -1");
            wrong++;
        }
        System.out.println(due.size() + " members looked at, " + wrong + " wrong");
        if (wrong != 0) {
            System.exit(1);
        }
    }
}
