import java.lang.reflect.Field;
import java.lang.reflect.Method;
import java.lang.reflect.Modifier;
import java.nio.file.Files;
import java.nio.file.Path;
import java.util.Arrays;
import java.util.Set;
import java.util.TreeSet;
import java.util.regex.Matcher;
import java.util.regex.Pattern;

/** The public face of the document, and what can be seen of LANGUAGE.md in the class and its text. */
public final class FaceTest {
    private static final Path SOURCE = Path.of("src/main/java/HeadBudgets.java");
    private static final Set<String> METHODS = new TreeSet<>(Arrays.asList(
        "make/2", "allot/2", "freeze/2", "setShare/2", "setCarried/1", "commit/2", "pay/2", "release/1",
        "vire/3", "endYear/0", "undo/0", "revoke/1", "count/1", "head/2", "total/2", "commitment/2",
        "deed/1", "mostFrom/2", "bestGiver/1", "richest/2", "wouldLapse/1"));
    private static final Set<String> CONSTANTS = new TreeSet<>(Arrays.asList(
        "INVALID_ARGUMENT", "ILLEGAL_STATE", "CAPACITY_EXCEEDED", "NONE"));
    private static final String[] RULED_OUT = {"\\bimport\\b(?! java\\.util\\.(ArrayList|List|Iterator|Arrays);)",
        "\\bpackage\\b", "\\bthrow\\b", "\\bthrows\\b", "\\btry\\b", "\\bcatch\\b", "\\bsynchronized\\b",
        "\\bassert\\b", "(?m)^(?!\\s*(case|default)\\b).*->", "::", "\\bboolean equals\\b", "\\bhashCode\\b",
        "\\bString toString\\b", "\\w+Exact\\b", "\\bSystem\\.(?!arraycopy)", "\\b(Random|Thread|Math\\.random)\\b",
        "[^\\x00-\\x7f]"};

    public static void main(String[] args) throws Exception {
        Due due = new Due();
        theFace(due);
        classesInside(due);
        theText(due);
        due.close("FaceTest");
    }

    private static void theFace(Due due) {
        Class<?> face = HeadBudgets.class;
        due.holds("public final", Modifier.isPublic(face.getModifiers()) && Modifier.isFinal(face.getModifiers()));
        due.is("constructors", face.getDeclaredConstructors().length, 1);
        due.is("public constructors without arguments", face.getConstructors()[0].getParameterCount(), 0);
        Set<String> methods = new TreeSet<>();
        for (Method method : face.getDeclaredMethods()) {
            String name = method.getName();
            if (!Modifier.isPrivate(method.getModifiers())) {
                methods.add(name + "/" + method.getParameterCount());
                due.holds(name + " is public and of the object", method.getModifiers() == Modifier.PUBLIC);
                due.holds(name + " is all int", method.getReturnType() == int.class
                    && Arrays.stream(method.getParameterTypes()).allMatch(type -> type == int.class));
            } else {
                due.holds("private " + name + " has a name of its own",
                    METHODS.stream().noneMatch(each -> each.startsWith(name + "/")));
            }
        }
        due.holds("the methods " + methods, methods.equals(METHODS));
        Set<String> constants = new TreeSet<>();
        for (Field field : face.getDeclaredFields()) {
            if (!Modifier.isPrivate(field.getModifiers())) {
                constants.add(field.getName());
                due.is("modifiers of " + field.getName(), field.getModifiers(),
                    Modifier.PUBLIC | Modifier.STATIC | Modifier.FINAL);
            }
            due.holds("static " + field.getName() + " is final",
                !Modifier.isStatic(field.getModifiers()) || Modifier.isFinal(field.getModifiers()));
        }
        due.holds("the constants " + constants, constants.equals(CONSTANTS));
    }

    private static void classesInside(Due due) {
        Class<?>[] inside = HeadBudgets.class.getDeclaredClasses();
        due.holds("at most twelve classes", inside.length < 12);
        for (Class<?> each : inside) {
            int modifiers = each.getModifiers();
            due.holds(each.getName() + " is static and not public", Modifier.isStatic(modifiers)
                && !Modifier.isPublic(modifiers) && !Modifier.isProtected(modifiers));
            long fields = Arrays.stream(each.getDeclaredFields())
                .filter(field -> !Modifier.isStatic(field.getModifiers())).count();
            due.holds(each.getName() + " has some twenty fields at most", fields <= 20);
            for (Method method : each.getDeclaredMethods()) {
                due.holds(method + " takes at most seven", method.getParameterCount() <= 7);
            }
        }
    }

    private static void theText(Due due) throws Exception {
        String text = Files.readString(SOURCE).replaceAll("(?s)/\\*.*?\\*/", "").replaceAll("//[^\n]*", "");
        for (String form : RULED_OUT) {
            Matcher matcher = Pattern.compile(form).matcher(text);
            due.holds("none of " + form, !matcher.find());
        }
        int start = -1;
        String[] lines = text.split("\n", -1);
        for (int line = 0; line < lines.length; line++) {
            if (lines[line].matches("(    |        )\\S.*\\) \\{")) {
                start = line;
            } else if (start >= 0 && lines[line].matches("(    |        )\\}")) {
                due.holds("short: " + lines[start].trim(), line - start <= 60);
                start = -1;
            }
        }
    }
}
