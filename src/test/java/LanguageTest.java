import java.io.DataInputStream;
import java.io.IOException;
import java.io.InputStream;
import java.lang.reflect.Executable;
import java.lang.reflect.Field;
import java.lang.reflect.Method;
import java.lang.reflect.Modifier;
import java.util.ArrayList;
import java.util.Arrays;
import java.util.HashSet;
import java.util.List;
import java.util.Set;

/** Some rules of LANGUAGE.md that the compiled classes show. */
public final class LanguageTest {
    private static final Set<String> LIBRARY = Set.of("java/lang/Object", "java/lang/StringBuilder",
            "java/lang/String", "java/lang/Math", "java/lang/IndexOutOfBoundsException",
            "java/lang/IllegalArgumentException", "java/lang/IllegalStateException");
    private static final int INVOKE_DYNAMIC = 18;
    private static final int METHOD_HANDLE = 15;

    public static void main(String[] args) throws IOException {
        List<Class<?>> classes = new ArrayList<>(Arrays.asList(MeterHouse.class.getDeclaredClasses()));
        classes.add(MeterHouse.class);
        Check.dueText("rule 11, classes", classes.size() <= 12 ? "at most 12" : "" + classes.size(), "at most 12");
        for (Class<?> one : classes) {
            shapeOf(one);
            libraryOf(one);
        }
        Check.end();
    }

    private static void holds(String rule, boolean holds) {
        Check.dueText(rule, holds ? "kept" : "broken", "kept");
    }

    private static void shapeOf(Class<?> one) {
        String name = one.getSimpleName();
        if (one != MeterHouse.class) {
            holds("rule 1, " + name + " is static and not open", Modifier.isStatic(one.getModifiers())
                    && !Modifier.isPublic(one.getModifiers()) && !Modifier.isProtected(one.getModifiers()));
        }
        int fields = 0;
        for (Field field : one.getDeclaredFields()) {
            boolean isStatic = Modifier.isStatic(field.getModifiers());
            holds("rule 5, " + name + "." + field.getName(), !isStatic || Modifier.isFinal(field.getModifiers()));
            fields += isStatic ? 0 : 1;
        }
        holds("rule 11, fields of " + name, fields <= 20);
        List<Executable> code = new ArrayList<>(Arrays.asList(one.getDeclaredMethods()));
        code.addAll(Arrays.asList(one.getDeclaredConstructors()));
        for (Executable each : code) {
            holds("rule 11, parameters of " + name + "." + each.getName(), each.getParameterCount() <= 7);
        }
        namesOf(one);
    }

    private static void namesOf(Class<?> one) {
        Set<String> open = new HashSet<>();
        for (Method method : MeterHouse.class.getDeclaredMethods()) {
            if (Modifier.isPublic(method.getModifiers())) {
                open.add(method.getName());
            }
        }
        for (Method method : one.getDeclaredMethods()) {
            boolean isOpen = one == MeterHouse.class && Modifier.isPublic(method.getModifiers());
            holds("rule 1, the name " + method.getName(), isOpen || !open.contains(method.getName()));
            holds("rule 6, the name " + method.getName(),
                    !Set.of("equals", "hashCode", "toString").contains(method.getName()));
        }
    }

    /** Rule 4: reads from a compiled class which others it names. */
    private static void libraryOf(Class<?> one) throws IOException {
        String file = one.getName() + ".class";
        try (InputStream bytes = MeterHouse.class.getResourceAsStream(file)) {
            DataInputStream data = new DataInputStream(bytes);
            data.readInt();
            data.readInt();
            int end = data.readUnsignedShort();
            String[] texts = new String[end];
            List<Integer> named = new ArrayList<>();
            for (int place = 1; place < end; place++) {
                place += readConstant(data, place, texts, named);
            }
            for (int text : named) {
                boolean own = texts[text].startsWith("MeterHouse") || texts[text].startsWith("[");
                holds("rule 4, " + one.getSimpleName() + " names " + texts[text],
                        own || LIBRARY.contains(texts[text]));
            }
        }
    }

    /** Reads a constant; returns how many places behind its own it takes. */
    private static int readConstant(DataInputStream data, int place, String[] texts, List<Integer> named)
            throws IOException {
        int tag = data.readUnsignedByte();
        holds("rule 2, no lambda and no joining by +", tag != INVOKE_DYNAMIC && tag != METHOD_HANDLE);
        switch (tag) {
            case 1:
                texts[place] = data.readUTF();
                return 0;
            case 5:
            case 6:
                data.readLong();
                return 1;
            case 7:
                named.add(data.readUnsignedShort());
                return 0;
            case 8:
            case 16:
            case 19:
            case 20:
                data.readUnsignedShort();
                return 0;
            case METHOD_HANDLE:
                data.readUnsignedByte();
                data.readUnsignedShort();
                return 0;
            default:
                data.readInt();
                return 0;
        }
    }
}
