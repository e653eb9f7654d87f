import java.lang.reflect.Constructor;
import java.lang.reflect.Field;
import java.lang.reflect.Method;
import java.lang.reflect.Modifier;
import java.util.Arrays;
import java.util.Set;
import java.util.TreeSet;

/** The public face: just what the document lists, and nothing else that others can see. */
public final class FaceTest {
    private static final Check CHECK = new Check();

    private static final String INDEX = " throws java.lang.IndexOutOfBoundsException";
    private static final String ARGUMENT = " throws java.lang.IllegalArgumentException";
    private static final String STATE = " throws java.lang.IllegalStateException";
    private static final String INDEX_ARGUMENT = INDEX + ",java.lang.IllegalArgumentException";
    private static final String INDEX_STATE = INDEX + ",java.lang.IllegalStateException";

    private static final String[] FACE = {
        "int addQuarter()" + STATE,
        "int addPerson(int)" + INDEX_STATE,
        "int addOrder(int,int,int,int)" + INDEX_ARGUMENT + ",java.lang.IllegalStateException",
        "boolean turnExempt(int,int)" + INDEX,
        "boolean turnOrder(int)" + INDEX,
        "int setShift(int)" + ARGUMENT,
        "int givePass(int,int,int)" + INDEX_ARGUMENT,
        "int takePass(int,int)" + INDEX,
        "int goOut(int,int)" + INDEX,
        "int pass(int)" + ARGUMENT,
        "int day()",
        "int halfHour()",
        "int duskIn(int)" + ARGUMENT,
        "int dawnIn(int)" + ARGUMENT,
        "int quarterOf(int)" + INDEX,
        "int colourOf(int)" + INDEX,
        "boolean isInForce(int)" + INDEX,
        "boolean isOn(int)" + INDEX,
        "boolean isExempt(int,int)" + INDEX,
        "int barredBy(int)" + INDEX,
        "int tradeOf(int)" + INDEX,
        "int stampsOf(int,int)" + INDEX,
        "int owes(int)" + INDEX,
        "int timesFined(int)" + INDEX,
        "int ordersAgainst(int,int)" + INDEX,
        "boolean mayGo(int,int)" + INDEX,
        "int stampsMissing(int,int)" + INDEX,
        "int quarters()",
        "int orders()",
        "int people()",
        "int ordersOn()",
        "int shift()",
        "int allOwe()",
        "int stampsUsed(int)" + INDEX,
        "int halfHoursUntilFree(int,int)" + INDEX,
        "int halfHoursOn(int)" + INDEX,
        "int bestLift()",
        "double meanDebt()",
        "long digest()",
    };

    public static void main(String[] args) {
        methodsAreThoseOfTheFace();
        nothingElseIsSeen();
        CHECK.finish();
    }

    private static void methodsAreThoseOfTheFace() {
        Set<String> due = new TreeSet<>();
        for (String line : FACE) {
            due.add("public " + line);
        }
        Set<String> found = new TreeSet<>();
        Set<String> publicNames = new TreeSet<>();
        for (Method method : CurfewDesk.class.getDeclaredMethods()) {
            if (!Modifier.isPrivate(method.getModifiers())) {
                found.add(method.toGenericString().replace("CurfewDesk.", ""));
                publicNames.add(method.getName());
            }
        }
        if (!due.equals(found)) {
            CHECK.fail("the face is " + found);
        }
        for (Method method : CurfewDesk.class.getDeclaredMethods()) {
            if (Modifier.isPrivate(method.getModifiers())
                    && publicNames.contains(method.getName())) {
                CHECK.fail("a private method bears the name " + method.getName());
            }
        }
    }

    private static void nothingElseIsSeen() {
        int modifiers = CurfewDesk.class.getModifiers();
        CHECK.is("the class is public", true, Modifier.isPublic(modifiers));
        CHECK.is("the class is final", true, Modifier.isFinal(modifiers));
        Constructor<?>[] constructors = CurfewDesk.class.getDeclaredConstructors();
        CHECK.is("constructors", 1, constructors.length);
        for (Constructor<?> constructor : constructors) {
            CHECK.is("it is public", true, Modifier.isPublic(constructor.getModifiers()));
            CHECK.is("its arguments", 0, constructor.getParameterCount());
        }
        for (Field field : CurfewDesk.class.getDeclaredFields()) {
            if (!Modifier.isPrivate(field.getModifiers())) {
                CHECK.fail("a field can be seen: " + field.getName());
            }
        }
        for (Class<?> inside : CurfewDesk.class.getDeclaredClasses()) {
            CHECK.is("a class inside is static: " + inside, true,
                    Modifier.isStatic(inside.getModifiers()));
        }
        CHECK.is("interfaces", 0, Arrays.asList(CurfewDesk.class.getInterfaces()).size());
    }
}
