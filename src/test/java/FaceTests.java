import java.io.IOException;
import java.lang.reflect.Field;
import java.lang.reflect.Method;
import java.lang.reflect.Modifier;
import java.nio.file.Files;
import java.nio.file.Path;
import java.util.Arrays;
import java.util.HashSet;
import java.util.Set;
import java.util.TreeSet;
import java.util.regex.Matcher;
import java.util.regex.Pattern;

/** What is seen from outside is the document's face, and the source keeps to the language. */
public final class FaceTests {
    private static final String[] FACE = {
        "int feed(int, int, int, int, int)", "boolean end(int)", "int systems()", "int fault()",
        "int system(int, int) throws NoSuchElementException", "int write(int, int)",
        "int octet(int) throws NoSuchElementException", "int tablet()",
        "int line(int, int, int) throws NoSuchElementException", "int lines(int)", "int readings(int)",
        "int bound(int, int, boolean) throws NoSuchElementException",
        "int digit(int, int) throws NoSuchElementException", "int wrong(int)", "int fragment(int, int)",
        "int rows(int)", "int join(int, int)", "int match()", "int matched(int)", "int count(int)",
    };
    private static final String[] LEFT_OUT = {
        "catch", "finally", "synchronized", "assert", "record\\s+\\w+\\s*\\(", "->", "::", "static\\s*\\{", "protected",
        "System\\.(?!arraycopy)", "Math\\.\\w+Exact", "Object", "Thread", "import (?!java\\.util\\.(Arrays|NoSuchElementException);)",
        "package", "Integer\\.(?!compare|max|min|bitCount)", "while \\(true\\)", "for \\(;;\\)", "\\bdouble\\b", "\\bfloat\\b",
    };
    private static int wrong = 0;

    public static void main(String[] args) throws IOException {
        checkFace();
        checkMembers();
        checkNamesInside();
        checkSource(Files.readString(Path.of("src/main/java/ClayAccounts.java")));
        System.out.println("FaceTests: " + wrong + " wrong");
        System.exit(wrong == 0 ? 0 : 1);
    }

    private static void say(String fault) {
        wrong++;
        System.out.println(fault);
    }

    private static String told(Method m) {
        StringBuilder text = new StringBuilder(m.getReturnType().getSimpleName()).append(' ').append(m.getName()).append('(');
        for (int i = 0; i < m.getParameterCount(); i++) {
            text.append(i > 0 ? ", " : "").append(m.getParameterTypes()[i].getSimpleName());
        }
        text.append(')');
        for (Class<?> e : m.getExceptionTypes()) {
            text.append(" throws ").append(e.getSimpleName());
        }
        return text.toString();
    }

    private static void checkFace() {
        Set<String> seen = new TreeSet<>();
        for (Method m : ClayAccounts.class.getDeclaredMethods()) {
            if (Modifier.isPublic(m.getModifiers())) {
                seen.add(told(m));
            } else if (!Modifier.isPrivate(m.getModifiers())) {
                say("neither public nor private: " + m);
            }
        }
        Set<String> due = new TreeSet<>(Arrays.asList(FACE));
        if (!seen.equals(due)) {
            say("the face is " + seen + ", due is " + due);
        }
        int modifiers = ClayAccounts.class.getModifiers();
        if (!Modifier.isFinal(modifiers) || !Modifier.isPublic(modifiers)) {
            say("the class is not public and final");
        }
        if (ClayAccounts.class.getConstructors().length != 1 || ClayAccounts.class.getConstructors()[0].getParameterCount() != 0) {
            say("the constructor is not the one that is due");
        }
    }

    private static void checkMembers() {
        for (Field f : ClayAccounts.class.getDeclaredFields()) {
            boolean isNone = f.getName().equals("NONE") && Modifier.isPublic(f.getModifiers());
            if (!isNone && !Modifier.isPrivate(f.getModifiers())) {
                say("a field that can be seen: " + f);
            }
            if (Modifier.isStatic(f.getModifiers()) && !Modifier.isFinal(f.getModifiers())) {
                say("static state: " + f);
            }
        }
        for (Class<?> inside : ClayAccounts.class.getDeclaredClasses()) {
            if (!Modifier.isStatic(inside.getModifiers()) || Modifier.isPublic(inside.getModifiers())) {
                say("a class inside that is public or not static: " + inside);
            }
        }
        if (ClayAccounts.class.getDeclaredClasses().length > 12) {
            say("too many classes");
        }
    }

    private static void checkNamesInside() {
        Set<String> names = new HashSet<>();
        for (Method m : ClayAccounts.class.getMethods()) {
            names.add(m.getName());
        }
        for (Class<?> inside : ClayAccounts.class.getDeclaredClasses()) {
            for (Method m : inside.getDeclaredMethods()) {
                if (names.contains(m.getName())) {
                    say("a method inside bears a public name: " + m);
                }
                if (m.getParameterCount() > 7) {
                    say("too many parameters: " + m);
                }
            }
        }
    }

    private static void checkSource(String source) {
        String bare = source.replaceAll("//[^\n]*|(?s)/\\*.*?\\*/", "").replaceAll("\"[^\"\n]*\"", "\"\"");
        for (String pattern : LEFT_OUT) {
            Matcher found = Pattern.compile(pattern).matcher(bare);
            if (found.find()) {
                say("the source has what the language leaves out: " + found.group());
            }
        }
        if (!source.chars().allMatch(c -> c < 127)) {
            say("the source has signs above 126");
        }
    }
}
