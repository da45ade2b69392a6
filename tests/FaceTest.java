import java.lang.reflect.Constructor;
import java.lang.reflect.Field;
import java.lang.reflect.Method;
import java.lang.reflect.Modifier;
import java.nio.charset.StandardCharsets;
import java.nio.file.Files;
import java.nio.file.Path;
import java.util.ArrayList;
import java.util.List;
import java.util.Set;
import java.util.TreeSet;
import java.util.regex.Matcher;
import java.util.regex.Pattern;

/**
 * The public face is the document's, line by line, and the program's text keeps to what
 * of LANGUAGE.md a look at the text and at the class can tell.
 * Arguments: the document, the program's file.
 */
public final class FaceTest {
    private static int wrong = 0;

    private static void fault(String what) {
        wrong++;
        System.out.println("FaceTest: " + what);
    }

    public static void main(String[] args) throws Exception {
        face(Files.readString(Path.of(args[0]), StandardCharsets.UTF_8));
        inside();
        text(Files.readString(Path.of(args[1]), StandardCharsets.UTF_8));
        System.out.println(wrong == 0 ? "FaceTest: as it must be" : "FaceTest: " + wrong + " wrong");
        if (wrong != 0) {
            System.exit(1);
        }
    }

    private static void face(String document) {
        Set<String> due = new TreeSet<>();
        Matcher m = Pattern.compile("    public (int|long) (\\w+)\\(([^)]*)\\);").matcher(document);
        while (m.find()) {
            int many = m.group(3).isEmpty() ? 0 : m.group(3).split(",").length;
            due.add(m.group(1) + " " + m.group(2) + " " + many);
        }
        Set<String> is = new TreeSet<>();
        for (Method method : AcrossTheGap.class.getDeclaredMethods()) {
            if (Modifier.isPrivate(method.getModifiers())) {
                continue;
            }
            is.add(method.getReturnType() + " " + method.getName() + " " + method.getParameterCount());
            for (Class<?> type : method.getParameterTypes()) {
                if (type != int.class) {
                    fault(method + " takes no int");
                }
            }
            if (method.getModifiers() != Modifier.PUBLIC) {
                fault(method + " is not just public");
            }
        }
        if (due.size() != 58 || !due.equals(is)) {
            fault("the face is " + is + ", due is " + due);
        }
        Constructor<?>[] made = AcrossTheGap.class.getDeclaredConstructors();
        if (made.length != 1 || made[0].getModifiers() != Modifier.PUBLIC || made[0].getParameterCount() != 0) {
            fault("the constructor");
        }
        if (AcrossTheGap.class.getModifiers() != (Modifier.PUBLIC | Modifier.FINAL)) {
            fault("the class is not just public and final");
        }
    }

    private static void inside() {
        Set<String> open = new TreeSet<>();
        for (Method method : AcrossTheGap.class.getDeclaredMethods()) {
            if (Modifier.isPublic(method.getModifiers())) {
                open.add(method.getName());
            }
        }
        List<Class<?>> classes = new ArrayList<>(List.of(AcrossTheGap.class.getDeclaredClasses()));
        if (classes.size() > 11) {
            fault("too many classes");
        }
        for (Class<?> c : classes) {
            if (!Modifier.isStatic(c.getModifiers()) || Modifier.isPublic(c.getModifiers())) {
                fault(c + " is public or not static");
            }
        }
        classes.add(AcrossTheGap.class);
        for (Class<?> c : classes) {
            int fields = 0;
            for (Field field : c.getDeclaredFields()) {
                boolean isStatic = Modifier.isStatic(field.getModifiers());
                fields += isStatic ? 0 : 1;
                if (isStatic && !Modifier.isFinal(field.getModifiers()) || !Modifier.isPrivate(field.getModifiers())) {
                    fault(field + " is not private, or static and not final");
                }
            }
            if (fields > 20) {
                fault(c + " has too many fields");
            }
            for (Method method : c.getDeclaredMethods()) {
                if (method.getParameterCount() > 7) {
                    fault(method + " takes too many parameters");
                }
                if (Modifier.isPrivate(method.getModifiers()) && open.contains(method.getName())) {
                    fault(method + " bears the name of a public one");
                }
            }
        }
    }

    private static void text(String program) {
        for (char c : program.toCharArray()) {
            if (c > 126 || c < 32 && c != '\n') {
                fault("a sign of number " + (int) c);
            }
        }
        String bare = program.replaceAll("(?s)/\\*.*?\\*/", "").replaceAll("//[^\n]*", "");
        String[] none = {"throw", "throws", "try", "catch", "finally", "synchronized", "assert", "protected", "import",
            "package", "Exact", "Thread", "Random", "random", "nanoTime", "currentTimeMillis", "getenv", "getProperty",
            "equals", "hashCode", "toString", "Object", "Exception", "volatile", "native", "var", "float", "double"};
        for (String word : none) {
            if (Pattern.compile("\\b" + word + "\\b").matcher(bare).find()) {
                fault("the word " + word);
            }
        }
        for (String sign : new String[] {"->", "::", "static {", "\""}) {
            if (bare.contains(sign)) {
                fault("the sign " + sign);
            }
        }
        // Only constructors make anything, so that a run's calls make nothing.
        Matcher m = Pattern.compile("(?m)^.*\\bnew\\b.*$").matcher(bare);
        while (m.find()) {
            if (!m.group().trim().startsWith("private final ")) {
                fault("made in a call: " + m.group().trim());
            }
        }
        // Of the library's static functions just those that LANGUAGE.md lists.
        Matcher call = Pattern.compile("\\b[A-Z][a-z]+\\.[a-z]\\w*(?=\\()").matcher(bare);
        while (call.find()) {
            if (!call.group().matches("Integer\\.bitCount|Math\\.(max|min)|System\\.arraycopy")) {
                fault("a call of " + call.group());
            }
        }
        methodsAreShort(bare);
    }

    /** From each head of a method to the closing brace that stands under it. */
    private static void methodsAreShort(String bare) {
        String[] lines = bare.split("\n");
        for (int i = 0; i < lines.length; i++) {
            if (lines[i].matches(" {4,8}(public|private) [^=]*\\) \\{")) {
                String end = lines[i].replaceAll("\\S.*", "") + "}";
                int length = 1;
                while (i + length < lines.length && !lines[i + length].equals(end)) {
                    length++;
                }
                if (length > 60) {
                    fault("more than 60 lines: " + lines[i].trim());
                }
            }
        }
    }
}
