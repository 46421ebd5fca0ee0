import java.io.IOException;
import java.lang.reflect.Constructor;
import java.lang.reflect.Field;
import java.lang.reflect.Member;
import java.lang.reflect.Method;
import java.lang.reflect.Modifier;
import java.nio.file.Files;
import java.nio.file.Path;
import java.util.Arrays;
import java.util.Set;
import java.util.TreeSet;
import java.util.regex.Matcher;
import java.util.regex.Pattern;

/** The face of the class as the document has it, and the rules of LANGUAGE.md that can be read. */
public final class FaceTest {
    private static final Checks CHECKS = new Checks("FaceTest");
    private static final Set<String> FACE = new TreeSet<>(Arrays.asList(
        "int cups(int, int, int, boolean)", "int hands(int)", "int hand(int, int, int)",
        "int throwsOf(int, int)", "int holds(int, int, int)", "int chance(int, int, int, int)",
        "int surest(int, int, int, int)", "int weigh(int, int, int, int, int, int)",
        "long worth(int, int)", "long answer(int, int)", "int opening(int, int)",
        "int reply(int, int, int)", "int round(int)", "int held(int)", "int move(int)",
        "int about(int)", "int count(int)", "long digest()"));

    public static void main(String[] args) throws IOException {
        theClass();
        theMethods();
        theFields();
        theClassesInside();
        theSource(Files.readString(Path.of("src/main/java/DiceCups.java")));
        CHECKS.end();
    }

    private static void theClass() {
        int flags = DiceCups.class.getModifiers();
        CHECKS.sure("public final class", Modifier.isPublic(flags) && Modifier.isFinal(flags));
        CHECKS.sure("no package", DiceCups.class.getPackageName().isEmpty());
        Constructor<?>[] made = DiceCups.class.getDeclaredConstructors();
        CHECKS.due("constructors", made.length, 1);
        CHECKS.due("its parameters", made[0].getParameterCount(), 0);
        CHECKS.sure("a public constructor", Modifier.isPublic(made[0].getModifiers()));
    }

    private static String told(Method method) {
        StringBuilder text = new StringBuilder();
        text.append(method.getReturnType().getName()).append(' ').append(method.getName());
        text.append('(');
        for (Class<?> type : method.getParameterTypes()) {
            text.append(text.charAt(text.length() - 1) == '(' ? "" : ", ").append(type.getName());
        }
        return text.append(')').toString();
    }

    private static void theMethods() {
        Set<String> seen = new TreeSet<>();
        Set<String> names = new TreeSet<>();
        for (Method method : DiceCups.class.getDeclaredMethods()) {
            if (Modifier.isPublic(method.getModifiers())) {
                seen.add(told(method));
                names.add(method.getName());
                CHECKS.sure(told(method) + " is no static one",
                    !Modifier.isStatic(method.getModifiers()));
            }
        }
        CHECKS.sure("the public methods " + seen, seen.equals(FACE));
        for (Method method : DiceCups.class.getDeclaredMethods()) {
            CHECKS.sure(told(method) + " is public or private", isPublicOrPrivate(method));
            CHECKS.sure(told(method) + " has a name of its own",
                Modifier.isPublic(method.getModifiers()) || !names.contains(method.getName()));
            CHECKS.sure(told(method) + " takes seven at most", method.getParameterCount() <= 7);
        }
    }

    private static boolean isPublicOrPrivate(Member member) {
        int flags = member.getModifiers();
        return Modifier.isPublic(flags) || Modifier.isPrivate(flags) || member.isSynthetic();
    }

    private static void theFields() {
        Set<String> open = new TreeSet<>();
        for (Field field : DiceCups.class.getDeclaredFields()) {
            int flags = field.getModifiers();
            CHECKS.sure(field + " is public or private", isPublicOrPrivate(field));
            CHECKS.sure(field + " is final where it is static",
                !Modifier.isStatic(flags) || Modifier.isFinal(flags));
            if (Modifier.isPublic(flags)) {
                open.add(field.getName());
                CHECKS.sure(field + " is an int constant", field.getType() == int.class
                    && Modifier.isStatic(flags));
            }
        }
        CHECKS.sure("the constants " + open, open.equals(Set.of("NONE", "BAD", "NO")));
    }

    private static void theClassesInside() {
        Class<?>[] inside = DiceCups.class.getDeclaredClasses();
        CHECKS.sure("some twelve classes", inside.length <= 11);
        for (Class<?> one : inside) {
            int flags = one.getModifiers();
            CHECKS.sure(one + " is static", Modifier.isStatic(flags));
            CHECKS.sure(one + " is not public",
                !Modifier.isPublic(flags) && !Modifier.isProtected(flags));
            CHECKS.sure(one + " has twenty fields", one.getDeclaredFields().length <= 20);
            for (Field field : one.getDeclaredFields()) {
                CHECKS.sure(field + " is final where it is static",
                    !Modifier.isStatic(field.getModifiers())
                        || Modifier.isFinal(field.getModifiers()));
            }
            for (Method method : one.getDeclaredMethods()) {
                CHECKS.sure(told(method) + " takes seven at most",
                    method.getParameterCount() <= 7);
                String name = " " + method.getName() + "(";
                CHECKS.sure(told(method) + " has a name of its own",
                    FACE.stream().noneMatch(called -> called.contains(name)));
            }
        }
    }

    private static void theSource(String text) {
        String code = Pattern.compile("/\\*.*?\\*/|//[^\\n]*", Pattern.DOTALL).matcher(text)
            .replaceAll(" ");
        String[] ruledOut = {"->", "::", "\\btry\\b", "\\bcatch\\b", "\\bfinally\\b",
            "\\bthrow\\b", "\\bthrows\\b", "\\bsynchronized\\b", "\\bassert\\b", "\\bpackage\\b",
            "\\bDouble\\b", "\\bFloat\\b", "\\bMath\\b", "\\bSystem\\b", "\\bThread\\b",
            "\\bRandom\\b", "\\bObject\\b", "\\bequals\\b", "\\bhashCode\\b", "\\btoString\\b",
            "\"", "\\bstatic\\s*\\{", "\\binstanceof\\b", "java\\.(?!util\\.Arrays;)"};
        for (String one : ruledOut) {
            Matcher found = Pattern.compile(one).matcher(code);
            CHECKS.sure("no " + one + " in the source", !found.find());
        }
        Matcher calls = Pattern.compile("Arrays\\.(\\w+)").matcher(code);
        while (calls.find()) {
            CHECKS.sure("Arrays." + calls.group(1), calls.group(1).equals("fill"));
        }
        // Rows are made with the object alone, so that calls take no room.
        for (String line : code.split("\n")) {
            if (line.contains("new ")) {
                CHECKS.sure("made with the object: " + line.trim(),
                    line.matches("\\s*(private final \\S+ \\w+|\\w+) = new .*;"));
            }
        }
        CHECKS.sure("signs 1 to 127", text.chars().allMatch(c -> c > 0 && c < 128));
    }
}
