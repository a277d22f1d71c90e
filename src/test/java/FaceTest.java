import java.lang.reflect.Constructor;
import java.lang.reflect.Field;
import java.lang.reflect.Method;
import java.lang.reflect.Modifier;
import java.util.Set;
import java.util.TreeSet;

/** The public face as the document writes it, and nothing else that can be seen from outside. */
public final class FaceTest {
    private static final String IAE = "java.lang.IllegalArgumentException";
    private static final String ISE = "java.lang.IllegalStateException";
    private static final String NSE = "java.util.NoSuchElementException";
    private static final String UOE = "java.lang.UnsupportedOperationException";
    private static final String IOOBE = "java.lang.IndexOutOfBoundsException";

    private static final String[] METHODS = {
        "int enter(int,int,int,int) throws " + IAE + "," + NSE + "," + UOE + "," + ISE,
        "int correct(int,int,int) throws " + NSE + "," + UOE,
        "int cull(int) throws " + NSE + "," + ISE,
        "int of(int,int) throws " + NSE + "," + IOOBE,
        "int animals()",
        "long kinship(int,int) throws " + NSE,
        "long inbreeding(int) throws " + NSE,
        "long calf(int,int) throws " + NSE,
        "long share(int,int) throws " + NSE + "," + UOE,
        "long unknown(int) throws " + NSE,
        "long inHerd(int) throws " + NSE + "," + UOE,
        "long herd()",
        "int ancestors(int) throws " + NSE,
        "int descendants(int) throws " + NSE,
        "int lines(int,int) throws " + NSE,
        "int nearest(int,int) throws " + NSE,
        "int closest(int) throws " + NSE,
        "int bestBull(int) throws " + NSE,
        "long plan(int,int,long) throws " + IAE + "," + NSE + "," + UOE,
        "int bull(int) throws " + NSE,
        "long planned()",
    };

    private final Check check = new Check();

    public static void main(String[] args) {
        FaceTest test = new FaceTest();
        test.theClass();
        test.methods();
        test.fields();
        test.check.end();
    }

    private void theClass() {
        check.due("modifiers", Modifier.PUBLIC | Modifier.FINAL, HerdKinship.class.getModifiers());
        Constructor<?>[] constructors = HerdKinship.class.getDeclaredConstructors();
        check.due("constructors", 1, constructors.length);
        check.isTrue("public constructor without arguments", constructors[0].toString().equals("public HerdKinship()"));
        for (Class<?> inside : HerdKinship.class.getDeclaredClasses()) {
            int modifiers = inside.getModifiers();
            check.isTrue(inside.getName() + " is static", Modifier.isStatic(modifiers));
            check.isTrue(inside.getName() + " is hidden", !Modifier.isPublic(modifiers) && !Modifier.isProtected(modifiers));
        }
    }

    private void methods() {
        Set<String> due = new TreeSet<>(Set.of(METHODS));
        Set<String> open = new TreeSet<>();
        Set<String> openNames = new TreeSet<>();
        for (Method method : HerdKinship.class.getDeclaredMethods()) {
            if (!Modifier.isPrivate(method.getModifiers())) {
                open.add(method.toString().replace("public ", "").replace("HerdKinship.", ""));
                openNames.add(method.getName());
                check.isTrue(method + " is public and of the object", method.getModifiers() == Modifier.PUBLIC);
            }
        }
        check.isTrue("the methods are " + open + ", due are " + due, open.equals(due));
        for (Method method : HerdKinship.class.getDeclaredMethods()) {
            boolean hidden = Modifier.isPrivate(method.getModifiers());
            check.isTrue(method + " bears a name of its own", !hidden || !openNames.contains(method.getName()));
        }
    }

    private void fields() {
        check.due("NONE", -1, HerdKinship.NONE);
        for (Field field : HerdKinship.class.getDeclaredFields()) {
            boolean isNone = field.toString().equals("public static final int HerdKinship.NONE");
            check.isTrue(field + " is private or NONE", isNone || Modifier.isPrivate(field.getModifiers()));
            boolean still = !Modifier.isStatic(field.getModifiers()) || Modifier.isFinal(field.getModifiers());
            check.isTrue(field + " is no static state", still);
        }
    }
}
