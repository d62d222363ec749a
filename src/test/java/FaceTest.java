import java.lang.reflect.Constructor;
import java.lang.reflect.Field;
import java.lang.reflect.Method;
import java.lang.reflect.Modifier;
import java.nio.file.Files;
import java.nio.file.Path;
import java.util.Arrays;
import java.util.Set;
import java.util.TreeSet;

/** The public face of the document, and those rules of LANGUAGE.md that can be seen from outside or in the text. */
public final class FaceTest {
    private static final Check check = new Check();
    private static final String[] METHODS = {
        "int egg(int, int, int, int, int)", "int tick(int)", "int drift(int)", "int grade(int, int)",
        "int on(int, boolean)", "int at(int, int)", "int packer(int, int)", "int count(int)", "int barn(int, int)",
        "int pack(int, int)", "int free(int)", "int order(int, int, int)", "int best(int)", "int serve()",
        "int about(int, int)", "int doubt(int, boolean)", "int hours(int, int, boolean)", "int clear(int)",
        "int told(int)", "long trace()",
    };
    private static final String[] FIELDS = {"BAD", "STATE", "FULL", "NONE"};

    public static void main(String[] args) throws Exception {
        constants();
        face();
        nestedClasses();
        text();
        check.end();
    }

    private static void constants() {
        check.due("BAD", EggHouse.BAD, -1);
        check.due("STATE", EggHouse.STATE, -2);
        check.due("FULL", EggHouse.FULL, -3);
        check.due("NONE", EggHouse.NONE, -9);
    }

    private static void face() {
        int modifiers = EggHouse.class.getModifiers();
        check.isTrue("the class is public and final", Modifier.isPublic(modifiers) && Modifier.isFinal(modifiers));

        Set<String> methods = new TreeSet<>();
        Set<String> publicNames = new TreeSet<>();
        Set<String> privateNames = new TreeSet<>();
        for (Method method : EggHouse.class.getDeclaredMethods()) {
            if (Modifier.isPrivate(method.getModifiers())) {
                privateNames.add(method.getName());
            } else {
                methods.add(signature(method));
                publicNames.add(method.getName());
            }
        }
        check.isTrue("methods are " + methods, methods.equals(new TreeSet<>(Arrays.asList(METHODS))));
        privateNames.retainAll(publicNames);
        check.isTrue("private methods with public names: " + privateNames, privateNames.isEmpty());

        Set<String> fields = new TreeSet<>();
        for (Field field : EggHouse.class.getDeclaredFields()) {
            boolean isFinal = Modifier.isFinal(field.getModifiers());
            check.isTrue("static means final: " + field, isFinal || !Modifier.isStatic(field.getModifiers()));
            if (!Modifier.isPrivate(field.getModifiers())) {
                fields.add(field.getName());
            }
        }
        check.isTrue("fields are " + fields, fields.equals(new TreeSet<>(Arrays.asList(FIELDS))));

        Constructor<?>[] constructors = EggHouse.class.getDeclaredConstructors();
        check.due("constructors", constructors.length, 1);
        check.due("their parameters", constructors[0].getParameterCount(), 0);
    }

    private static String signature(Method method) {
        check.isTrue("public: " + method, Modifier.isPublic(method.getModifiers()));
        check.isTrue("not static: " + method, !Modifier.isStatic(method.getModifiers()));
        StringBuilder text = new StringBuilder();
        text.append(method.getReturnType()).append(' ').append(method.getName()).append('(');
        Class<?>[] types = method.getParameterTypes();
        for (int i = 0; i < types.length; i++) {
            text.append(i == 0 ? "" : ", ").append(types[i]);
        }
        return text.append(')').toString();
    }

    private static void nestedClasses() {
        Class<?>[] nested = EggHouse.class.getDeclaredClasses();
        check.isTrue("some twelve classes at most", nested.length < 12);
        for (Class<?> inside : nested) {
            check.isTrue("static: " + inside, Modifier.isStatic(inside.getModifiers()));
            check.isTrue("not public: " + inside, !Modifier.isPublic(inside.getModifiers()));
        }
    }

    private static void text() throws Exception {
        String source = Files.readString(Path.of("src/main/java/EggHouse.java"));
        String code = source.replaceAll("(?s)/\\*.*?\\*/", "").replaceAll("//.*", "");
        String[] ruledOut = {
            "\\bthrow\\b", "\\bthrows\\b", "\\btry\\b", "\\bcatch\\b", "\\bsynchronized\\b", "\\bassert\\b",
            "\\bpackage\\b", "->", "::", "Exact\\b", "\\bstatic\\s*\\{", "\\bSystem\\.(?!arraycopy)", "\\bRandom\\b",
            "\\bimport\\s+(?!java\\.util\\.ArrayList;)",
        };
        for (String rule : ruledOut) {
            check.isTrue("the program has no " + rule, !code.matches("(?s).*" + rule + ".*"));
        }
    }
}
