import java.io.IOException;
import java.lang.reflect.Constructor;
import java.lang.reflect.Field;
import java.lang.reflect.Method;
import java.lang.reflect.Modifier;
import java.nio.file.Files;
import java.nio.file.Path;
import java.util.ArrayList;
import java.util.List;
import java.util.Set;
import java.util.regex.Matcher;
import java.util.regex.Pattern;

/** What can be seen of the rules of LANGUAGE.md in the class's text and in its compiled form. */
public final class LanguageTest {
    private static final Due DUE = new Due("LanguageTest");
    // Words that the rules leave out; and what the machine itself throws, with the classes above it, which no answer
    // may come from.
    private static final String[] NOT_USED = {"package", "protected", "finally", "synchronized", "assert", "hashCode",
        "ArrayIndexOutOfBoundsException", "IndexOutOfBoundsException", "NullPointerException", "ArithmeticException",
        "ClassCastException", "NegativeArraySizeException", "ArrayStoreException", "RuntimeException", "Exception",
        "Throwable"};
    private static final Set<String> LIBRARY = Set.of("Math.abs", "Math.max", "System.arraycopy");
    private static final Set<String> THROWN = Set.of("IllegalArgumentException", "NoSuchElementException");

    public static void main(String[] args) throws IOException {
        List<String> lines = Files.readAllLines(Path.of("src/main/java/RankHouse.java"));
        List<String> code = new ArrayList<>();
        for (String line : lines) {
            code.add(line.replaceAll("//.*|/\\*\\*.*\\*/", ""));
        }
        words(String.join("\n", code));
        library(String.join("\n", code));
        methodsStayShort(code);
        List<Class<?>> classes = new ArrayList<>(List.of(RankHouse.class.getDeclaredClasses()));
        classes.add(RankHouse.class);
        DUE.yes("rule 11: classes", classes.size() <= 12);
        for (Class<?> each : classes) {
            members(each);
        }
        DUE.end();
    }

    private static void words(String code) {
        for (String word : NOT_USED) {
            DUE.no(word + " is used", Pattern.compile("\\b" + word + "\\b").matcher(code).find());
        }
        DUE.no("rule 2: a lambda or a method reference", code.contains("->") || code.contains("::"));
        DUE.no("rule 5: a static initialiser", Pattern.compile("static\\s*\\{").matcher(code).find());
    }

    // Rules 4 and 6: what is imported, called by the name of a class, and thrown.
    private static void library(String code) {
        every(code, "import ([\\w.*]+);", Set.of("java.util.NoSuchElementException"));
        every(code, "throw (?:new )?(\\w+)", THROWN);
        every(code, "\\b((?:Math|System|Arrays|Integer|Long|String|Character|Thread|Runtime)\\.\\w+)", LIBRARY);
        every(code, "new ([A-Z]\\w*)\\(", Set.of("ByteRow", "Decoder", "Graph", "Order", "Ranks",
                "IllegalArgumentException", "NoSuchElementException"));
    }

    private static void every(String code, String pattern, Set<String> fine) {
        Matcher found = Pattern.compile(pattern).matcher(code);
        while (found.find()) {
            DUE.yes(found.group(1) + " is in the part of Java that is left", fine.contains(found.group(1)));
        }
    }

    private static void methodsStayShort(List<String> code) {
        Pattern head = Pattern.compile("( {4}| {8})\\w[\\w\\[\\] ]*\\(.*\\{");
        for (int i = 0; i < code.size(); i++) {
            Matcher found = head.matcher(code.get(i));
            if (found.matches()) {
                String last = found.group(1) + "}";
                int behind = i;
                while (behind < code.size() && !code.get(behind).equals(last)) {
                    behind++;
                }
                DUE.yes("rule 11: at most sixty lines: " + code.get(i), behind - i < 60);
            }
        }
    }

    private static void members(Class<?> each) {
        int fields = 0;
        for (Field field : each.getDeclaredFields()) {
            boolean constant = Modifier.isStatic(field.getModifiers());
            DUE.yes("rule 5: " + field, !constant || Modifier.isFinal(field.getModifiers()));
            fields += constant ? 0 : 1;
        }
        DUE.yes("rule 11: fields of " + each, fields <= 20);
        for (Method method : each.getDeclaredMethods()) {
            DUE.yes("rule 11: parameters of " + method, method.getParameterCount() <= 7);
        }
        for (Constructor<?> maker : each.getDeclaredConstructors()) {
            DUE.yes("rule 11: parameters of " + maker, maker.getParameterCount() <= 7);
        }
    }
}
