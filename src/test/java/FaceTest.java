import java.lang.reflect.Constructor;
import java.lang.reflect.Field;
import java.lang.reflect.Method;
import java.lang.reflect.Modifier;
import java.util.Arrays;
import java.util.Set;
import java.util.TreeSet;

/** The public face is the document's, and nothing beside it can be seen (LANGUAGE.md, rule 1). */
public final class FaceTest {
    private static final String[] FACE = {
        "int feed(int, int, int, int, int)",
        "boolean end(int)",
        "int read()",
        "int fault()",
        "boolean clear(int)",
        "boolean add(int, int)",
        "boolean cut(int, int)",
        "boolean has(int, int)",
        "int edges(int, int) throws java.util.NoSuchElementException",
        "int other(int, int, int)",
        "boolean weight(int, int)",
        "boolean damping(int, int)",
        "int run(int, long) throws java.lang.IllegalArgumentException",
        "void again()",
        "long rank(int) throws java.util.NoSuchElementException",
        "long look(int)",
        "int top(int)",
        "long gives(int, int)",
        "int giver(int, int)",
        "int write()",
        "int octet(int) throws java.util.NoSuchElementException",
        "int count(int)",
    };

    public static void main(String[] args) {
        Due due = new Due("FaceTest");
        due.is("NONE", RankHouse.NONE, -1);
        due.is("modifiers", RankHouse.class.getModifiers(), Modifier.PUBLIC | Modifier.FINAL);
        methods(due);
        fields(due);
        Constructor<?>[] all = RankHouse.class.getDeclaredConstructors();
        due.is("constructors", all.length, 1);
        due.is("constructor's modifiers", all[0].getModifiers(), Modifier.PUBLIC);
        due.is("constructor's parameters", all[0].getParameterCount(), 0);
        for (Class<?> inner : RankHouse.class.getDeclaredClasses()) {
            due.yes(inner.getName() + " is static", Modifier.isStatic(inner.getModifiers()));
            due.no(inner.getName() + " is public", Modifier.isPublic(inner.getModifiers()));
        }
        due.end();
    }

    private static void methods(Due due) {
        Set<String> want = new TreeSet<>(Arrays.asList(FACE));
        Set<String> names = new TreeSet<>();
        for (Method method : RankHouse.class.getDeclaredMethods()) {
            if (Modifier.isPublic(method.getModifiers())) {
                names.add(method.getName());
                due.yes(told(method) + " is in the document", want.remove(told(method)));
            }
        }
        due.is("methods that are missing: " + want, want.size(), 0);
        for (Method method : RankHouse.class.getDeclaredMethods()) {
            if (!Modifier.isPublic(method.getModifiers())) {
                due.yes(told(method) + " is private", Modifier.isPrivate(method.getModifiers()));
                due.no(told(method) + " has a public name", names.contains(method.getName()));
            }
        }
    }

    private static void fields(Due due) {
        for (Field field : RankHouse.class.getDeclaredFields()) {
            int modifiers = field.getModifiers();
            boolean isNone = field.getName().equals("NONE");
            due.yes(field + " is private or NONE", isNone || Modifier.isPrivate(modifiers));
            due.yes(field + " is final if static", !Modifier.isStatic(modifiers) || Modifier.isFinal(modifiers));
        }
    }

    private static String told(Method method) {
        StringBuilder text = new StringBuilder();
        text.append(method.getReturnType().getName()).append(' ').append(method.getName()).append('(');
        text.append(joined(method.getParameterTypes())).append(')');
        if (method.getExceptionTypes().length > 0) {
            text.append(" throws ").append(joined(method.getExceptionTypes()));
        }
        return text.toString();
    }

    private static String joined(Class<?>[] types) {
        StringBuilder text = new StringBuilder();
        for (Class<?> type : types) {
            text.append(text.length() > 0 ? ", " : "").append(type.getName());
        }
        return text.toString();
    }
}
