import java.lang.reflect.Constructor;
import java.lang.reflect.Field;
import java.lang.reflect.Member;
import java.lang.reflect.Method;
import java.lang.reflect.Modifier;
import java.util.ArrayList;
import java.util.Arrays;
import java.util.HashSet;
import java.util.List;
import java.util.Set;

/** The face of the class: what the document lists is public, as it is written there, and nothing else is to be seen. */
public final class RosterPayFaceTest {
    private static final String INDEX = "IndexOutOfBoundsException";
    private static final String ARGUMENT = "IllegalArgumentException";
    private static final String STATE = "IllegalStateException";

    private static final String[] METHODS = {
        "int setBase(int, int) throws " + ARGUMENT,
        "int addRule(int, int, int, int, int) throws " + ARGUMENT + ", " + STATE,
        "boolean setRule(int, boolean) throws " + INDEX,
        "boolean setHoliday(int, boolean) throws " + ARGUMENT,
        "int addWorker(int) throws " + ARGUMENT + ", " + STATE,
        "int setRank(int, int) throws " + INDEX + ", " + ARGUMENT,
        "int addShift(int, int, int, int) throws " + INDEX + ", " + ARGUMENT + ", " + STATE,
        "int cancel(int) throws " + INDEX + ", " + STATE,
        "int takeBreaks(int, int) throws " + INDEX + ", " + ARGUMENT + ", " + STATE,
        "int shifts()",
        "int paidQuarters(int) throws " + INDEX,
        "int percentAt(int, int) throws " + INDEX,
        "int reasonAt(int, int) throws " + INDEX,
        "int missed(int) throws " + INDEX,
        "int pay(int) throws " + INDEX,
        "int payOf(int, int, int) throws " + INDEX + ", " + ARGUMENT,
        "int paidBy(int) throws " + INDEX,
        "int worked(int, int) throws " + INDEX + ", " + ARGUMENT,
        "int excess(int, int) throws " + INDEX + ", " + ARGUMENT};

    public static void main(String[] args) {
        testClass();
        testMethods();
        testConstants();
        testStaticFields();
        Checks.finish();
    }

    private static void testClass() {
        int modifiers = RosterPay.class.getModifiers();
        Checks.due("the class is public", 1, () -> Checks.number(Modifier.isPublic(modifiers)));
        Checks.due("the class is final", 1, () -> Checks.number(Modifier.isFinal(modifiers)));
        Checks.due("the class is without a package", "", RosterPay.class.getPackageName());
        Constructor<?>[] constructors = RosterPay.class.getDeclaredConstructors();
        Checks.due("constructors", 1, () -> constructors.length);
        Checks.due("the constructor", "public RosterPay()", constructors[0].toString());
        for (Class<?> inside : RosterPay.class.getDeclaredClasses()) {
            int how = inside.getModifiers();
            boolean isHidden = !Modifier.isPublic(how) && !Modifier.isProtected(how);
            Checks.due(inside.getName() + " is hidden and static", 1,
                    () -> Checks.number(isHidden && Modifier.isStatic(how)));
        }
    }

    private static void testMethods() {
        List<String> faces = new ArrayList<>();
        Set<String> names = new HashSet<>();
        for (Method method : RosterPay.class.getDeclaredMethods()) {
            if (Modifier.isPublic(method.getModifiers())) {
                faces.add(face(method));
                names.add(method.getName());
            }
        }
        Checks.due("public methods", sorted(Arrays.asList(METHODS)), sorted(faces));
        for (Method method : RosterPay.class.getDeclaredMethods()) {
            if (!Modifier.isPublic(method.getModifiers())) {
                checkHidden(method);
                if (names.contains(method.getName())) {
                    Checks.fail(method + " bears the name of a public one");
                }
            }
        }
    }

    /** A method as the document writes it, without the names of its parameters. */
    private static String face(Method method) {
        StringBuilder all = new StringBuilder(Modifier.isStatic(method.getModifiers()) ? "static " : "");
        all.append(method.getReturnType().getSimpleName()).append(' ').append(method.getName()).append('(');
        all.append(simpleNames(method.getParameterTypes())).append(')');
        Class<?>[] exceptions = method.getExceptionTypes();
        return all.append(exceptions.length > 0 ? " throws " : "").append(simpleNames(exceptions)).toString();
    }

    private static String simpleNames(Class<?>[] types) {
        List<String> names = new ArrayList<>();
        for (Class<?> type : types) {
            names.add(type.getSimpleName());
        }
        return String.join(", ", names);
    }

    private static String sorted(List<String> lines) {
        List<String> all = new ArrayList<>(lines);
        all.sort(null);
        return String.join("\n", all);
    }

    private static void testConstants() {
        List<String> names = new ArrayList<>();
        for (Field field : RosterPay.class.getDeclaredFields()) {
            if (Modifier.isPublic(field.getModifiers())) {
                names.add(Modifier.toString(field.getModifiers()) + " " + field.getType() + " " + field.getName());
            } else {
                checkHidden(field);
            }
        }
        Checks.due("constants", "public static final int OVERTIME\npublic static final int PLAIN", sorted(names));
        Checks.due("PLAIN", -1, () -> RosterPay.PLAIN);
        Checks.due("OVERTIME", -2, () -> RosterPay.OVERTIME);
    }

    private static void testStaticFields() {
        for (Field field : RosterPay.class.getDeclaredFields()) {
            int how = field.getModifiers();
            if (Modifier.isStatic(how) && !Modifier.isFinal(how)) {
                Checks.fail(field + " is static, but not final");
            }
        }
    }

    private static void checkHidden(Member member) {
        if (!Modifier.isPrivate(member.getModifiers())) {
            Checks.fail(member + " is to be seen, but not in the document");
        }
    }
}
