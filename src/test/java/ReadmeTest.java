import java.io.File;
import java.io.IOException;
import java.lang.reflect.Method;
import java.lang.reflect.Modifier;
import java.nio.file.Files;
import java.nio.file.Path;
import java.util.ArrayList;
import java.util.List;

/** README.md: its lines answer as they tell, and it names every call and every test. */
public final class ReadmeTest {
    private static final Checks CHECKS = new Checks("ReadmeTest");
    private static final List<String> TRIED = new ArrayList<>();
    private static String page = "";
    private static List<String> example = List.of();

    public static void main(String[] args) throws IOException {
        page = Files.readString(Path.of("README.md"));
        int start = page.indexOf("```java\n");
        int end = page.indexOf("```\n", start + 8);
        CHECKS.sure("there is an example", start >= 0 && end > start);
        if (start >= 0 && end > start) {
            example = List.of(page.substring(start + 8, end).split("\n"));
        }
        theExample();
        everyLineIsTried();
        everyCallIsNamed();
        everyTestIsNamed();
        CHECKS.end();
    }

    /** The line of this call must begin its comment with what the call has answered. */
    private static void told(String call, Object answer) {
        TRIED.add(call);
        String due = "";
        for (String line : example) {
            if (line.startsWith(call + "; ")) {
                due = line.substring(line.indexOf("// ") + 3);
            }
        }
        String got = String.valueOf(answer);
        CHECKS.sure(call + " is told as " + got + " in '" + due + "'",
            due.equals(got) || due.startsWith(got + ":"));
    }

    private static void theExample() {
        DiceCups x = new DiceCups();
        told("x.cups(1, 2, 2, false)", x.cups(1, 2, 2, false));
        told("x.hands(1)", x.hands(1));
        told("x.hand(1, 1, 0)", x.hand(1, 1, 0));
        told("x.throwsOf(1, 1)", x.throwsOf(1, 1));
        told("x.holds(1, 1, 3)", x.holds(1, 1, 3));
        told("x.chance(0, 1, 3, 0)", x.chance(0, 1, 3, 0));
        told("x.chance(0, 1, 3, 1)", x.chance(0, 1, 3, 1));
        told("x.surest(0, 1, 1, 2)", x.surest(0, 1, 1, 2));
        told("x.weigh(0, 0, 1, DiceCups.NONE, 3, 9)", x.weigh(0, 0, 1, DiceCups.NONE, 3, 9));
        told("Double.longBitsToDouble(x.worth(0, 1))", Double.longBitsToDouble(x.worth(0, 1)));
        told("Double.longBitsToDouble(x.answer(1, 0))", Double.longBitsToDouble(x.answer(1, 0)));
        told("x.opening(1, 1)", x.opening(1, 1));
        told("x.reply(0, 2, 3)", x.reply(0, 2, 3));
        told("x.round(7)", x.round(7));
        told("x.held(1)", x.held(1));
        told("x.move(3)", x.move(3));
        told("x.about(1)", x.about(1));
        told("x.move(1)", x.move(1));
        told("x.move(DiceCups.NONE)", x.move(DiceCups.NONE));
        told("x.count(6)", x.count(6));
    }

    private static void everyLineIsTried() {
        CHECKS.due("lines of the example", example.size(), TRIED.size() + 1);
        for (int i = 0; i < TRIED.size() && i + 1 < example.size(); i++) {
            CHECKS.sure("line " + (i + 2) + " is " + TRIED.get(i),
                example.get(i + 1).startsWith(TRIED.get(i) + "; "));
        }
    }

    private static void everyCallIsNamed() {
        for (Method method : DiceCups.class.getDeclaredMethods()) {
            if (Modifier.isPublic(method.getModifiers())) {
                CHECKS.sure(method.getName() + " has a row",
                    page.contains("\n| `" + method.getName() + "("));
            }
        }
    }

    private static void everyTestIsNamed() {
        String[] names = new File("src/test/java").list();
        CHECKS.sure("there are tests", names != null && names.length > 0);
        for (String name : names == null ? new String[0] : names) {
            String test = name.replace(".java", "");
            CHECKS.sure(test + " is named", page.contains("`" + test + "`"));
        }
    }
}
