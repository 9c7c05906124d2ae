import java.io.IOException;
import java.lang.reflect.InvocationTargetException;
import java.lang.reflect.Method;
import java.nio.charset.StandardCharsets;
import java.nio.file.Files;
import java.nio.file.Path;
import java.util.Set;
import java.util.TreeSet;
import java.util.regex.Matcher;
import java.util.regex.Pattern;
import java.util.stream.Stream;

/** What README.md says is so: its calls answer what stands behind them, its tests are those that there are. */
public final class ReadmeTests {
    private static final Pattern CALL =
            Pattern.compile("x\\.(\\w+)\\(([^()]*)\\);\\s*// (-?\\d+|true|false|throws \\w+)(: .*)?");
    private static final Pattern FED = Pattern.compile(": \"(.*)\" and (\\d+) bytes more");
    private static final Pattern OUT = Pattern.compile(": OUT is \"(.*)\"");
    private static final Pattern TEST = Pattern.compile("`(\\w+Tests)`");

    private static ClayAccounts x = new ClayAccounts();
    private static int calls = 0;
    private static int wrong = 0;

    public static void main(String[] args) throws IOException, ReflectiveOperationException {
        String readme = Files.readString(Path.of("README.md"));
        boolean inCode = false;
        for (String line : readme.split("\n")) {
            if (line.startsWith("```")) {
                inCode = line.equals("```java");
            } else if (inCode) {
                checkCode(line);
            }
        }
        checkTests(readme);
        if (calls == 0) {
            say("README.md shows no calls");
        }
        System.out.println("ReadmeTests: " + calls + " calls, " + wrong + " wrong");
        System.exit(wrong == 0 ? 0 : 1);
    }

    private static void say(String fault) {
        wrong++;
        System.out.println(fault);
    }

    private static void checkCode(String line) throws ReflectiveOperationException {
        if (line.equals("ClayAccounts x = new ClayAccounts();")) {
            x = new ClayAccounts();
            return;
        }
        Matcher call = CALL.matcher(line);
        if (!call.matches()) {
            say("not understood: " + line);
            return;
        }
        calls++;
        String[] words = call.group(2).isEmpty() ? new String[0] : call.group(2).split(", ");
        String got = answer(call.group(1), words);
        if (!got.equals(call.group(3))) {
            say(line + " answered " + got);
        }
        String told = call.group(4) == null ? "" : call.group(4);
        if (call.group(1).equals("feed")) {
            checkFed(line, words, told);
        } else if (call.group(1).equals("write")) {
            checkOut(line, told);
        }
    }

    private static String answer(String name, String[] words) throws ReflectiveOperationException {
        for (Method m : ClayAccounts.class.getMethods()) {
            if (!m.getName().equals(name) || m.getParameterCount() != words.length) {
                continue;
            }
            Object[] values = new Object[words.length];
            for (int i = 0; i < words.length; i++) {
                values[i] = m.getParameterTypes()[i] == boolean.class ? (Object) Boolean.valueOf(words[i]) : Integer.decode(words[i]);
            }
            try {
                return String.valueOf(m.invoke(x, values));
            } catch (InvocationTargetException e) {
                return "throws " + e.getCause().getClass().getSimpleName();
            }
        }
        return "no such call";
    }

    private static void checkFed(String line, String[] words, String told) {
        StringBuilder text = new StringBuilder();
        for (String word : words) {
            int number = Integer.decode(word);
            for (int shift = 24; shift >= 0; shift -= 8) {
                text.append((char) (number >>> shift & 255));
            }
        }
        Matcher fed = FED.matcher(told);
        if (!fed.matches() || !text.toString().startsWith(fed.group(1))
                || fed.group(1).length() + Integer.parseInt(fed.group(2)) != text.length()) {
            say(line + " feeds " + text);
        }
    }

    private static void checkOut(String line, String told) {
        byte[] bytes = new byte[x.count(5)];
        for (int k = 0; k < bytes.length; k++) {
            bytes[k] = (byte) x.octet(k);
        }
        String out = new String(bytes, StandardCharsets.ISO_8859_1);
        Matcher written = OUT.matcher(told);
        if (!written.matches() || !written.group(1).equals(out)) {
            say(line + " writes " + out);
        }
    }

    private static void checkTests(String readme) throws IOException {
        Set<String> told = new TreeSet<>();
        Matcher test = TEST.matcher(readme);
        while (test.find()) {
            told.add(test.group(1) + ".java");
        }
        Set<String> there = new TreeSet<>();
        try (Stream<Path> files = Files.list(Path.of("src/test/java"))) {
            files.forEach(file -> there.add(file.getFileName().toString()));
        }
        if (!told.equals(there)) {
            say("README.md tells the tests " + told + ", there are " + there);
        }
    }
}
