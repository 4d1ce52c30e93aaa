import java.lang.reflect.Constructor;
import java.lang.reflect.Field;
import java.lang.reflect.Method;
import java.lang.reflect.Modifier;
import java.util.Set;
import java.util.TreeSet;

/** "The public face": the constants, the constructor and the methods, and no other member. */
public final class FaceTest {
    private static final String[] METHODS = {
        "int point(int,int,int,int,int) throws I A S", "int weather(int,int,int) throws I A",
        "int pass(int) throws A S", "int read(int,int) throws I A S", "int confirm(int) throws I S",
        "int exchange(int,int,int,int) throws I A S", "int change(int,int,int) throws I S",
        "int object(int) throws I S", "int reverse(int) throws I S", "void tariff(int,int,int,int) throws I A",
        "long bill(int) throws I", "int credit(int,int) throws I A S", "long account(int) throws I",
        "long income(int) throws I", "int inflow(int,int) throws I A S", "int settle(int) throws I S",
        "int settled(int,int) throws I", "int volume(int,int) throws I", "int volumeAnew(int,int) throws I",
        "int of(int,int) throws I A", "char word(int,int,int) throws I"};

    public static void main(String[] args) {
        constants();
        constructors();
        methods();
        Check.end();
    }

    private static void constants() {
        Check.due("NONE", MeterHouse.NONE, -1);
        Check.due("FLAT", MeterHouse.FLAT, 0);
        Check.due("HOUSE", MeterHouse.HOUSE, 1);
        Check.due("SHOP", MeterHouse.SHOP, 2);
        Set<String> open = new TreeSet<>();
        for (Field field : MeterHouse.class.getDeclaredFields()) {
            if (!Modifier.isPrivate(field.getModifiers())) {
                open.add(Modifier.toString(field.getModifiers()) + " " + field.getType() + " " + field.getName());
            }
        }
        Check.dueText("the constants", open.toString(), "[public static final int FLAT, "
                + "public static final int HOUSE, public static final int NONE, public static final int SHOP]");
    }

    private static void constructors() {
        Constructor<?>[] made = MeterHouse.class.getDeclaredConstructors();
        Check.due("how many constructors", made.length, 1);
        Check.dueText("the constructor", made[0].toString(), "public MeterHouse()");
        Check.dueText("the class", Modifier.toString(MeterHouse.class.getModifiers()), "public final");
    }

    private static void methods() {
        Set<String> open = new TreeSet<>();
        for (Method method : MeterHouse.class.getDeclaredMethods()) {
            if (!Modifier.isPrivate(method.getModifiers())) {
                Check.dueText("modifiers of " + method.getName(), Modifier.toString(method.getModifiers()), "public");
                open.add(text(method));
            }
        }
        Check.dueText("the methods", open.toString(), new TreeSet<>(Set.of(METHODS)).toString());
    }

    private static String text(Method method) {
        StringBuilder told = new StringBuilder(method.getReturnType() + " " + method.getName() + "(");
        for (Class<?> parameter : method.getParameterTypes()) {
            told.append(told.charAt(told.length() - 1) == '(' ? "" : ",").append(parameter);
        }
        told.append(") throws");
        for (Class<?> thrown : method.getExceptionTypes()) {
            told.append(' ').append(letter(thrown));
        }
        return told.toString();
    }

    private static String letter(Class<?> thrown) {
        return thrown == IndexOutOfBoundsException.class ? "I" : thrown == IllegalArgumentException.class ? "A"
                : thrown == IllegalStateException.class ? "S" : thrown.getName();
    }
}
