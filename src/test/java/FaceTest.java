import java.lang.reflect.Constructor;
import java.lang.reflect.Field;
import java.lang.reflect.Method;
import java.lang.reflect.Modifier;
import java.util.Arrays;
import java.util.HashSet;
import java.util.List;
import java.util.Set;
import java.util.TreeSet;

/** The face of the class: what the document lists, with what it throws, and nothing else. */
public final class FaceTest {
    private static final String I = "IndexOutOfBoundsException";
    private static final String A = "IllegalArgumentException";
    private static final String S = "IllegalStateException";

    private static final String[] FACE = {
        "void setShares(int, int, int) " + A + " " + S,
        "void setExcess(int, int) " + A + " " + S,
        "void setEvents(int, int, int, int) " + A + " " + S,
        "void setCommission(int, int, int, int) " + A,
        "void setProfit(int, int) " + A,
        "int write(int, int) " + A + " " + S,
        "int lose(int, int, int) " + I + " " + A + " " + S,
        "int change(int, int) " + I + " " + A + " " + S,
        "int commute(int) " + I + " " + S,
        "int closeYear() " + S,
        "int year()",
        "int risks()",
        "int losses()",
        "int premium(int, int) " + I + " " + A,
        "int part(int, int) " + I + " " + A,
        "int borne(int, int) " + I + " " + A,
        "int byEvent(int, int) " + I,
        "int reinstatement(int) " + I,
        "int net(int) " + I,
        "int commission(int) " + I,
        "int share(int) " + I,
        "int carried(int) " + I,
    };

    public static void main(String[] args) {
        Check.is("the class", Modifier.PUBLIC | Modifier.FINAL, CededBook.class.getModifiers());
        constructors();
        fields();
        methods();
        Check.end();
    }

    private static void constructors() {
        Constructor<?>[] all = CededBook.class.getDeclaredConstructors();
        Check.is("one constructor", 1, all.length);
        Check.is("without arguments", 0, all[0].getParameterCount());
        Check.is("that is public", Modifier.PUBLIC, all[0].getModifiers());
        Check.is("and throws nothing", 0, all[0].getExceptionTypes().length);
    }

    private static void fields() {
        Set<String> shown = new TreeSet<>();
        int ofAnObject = 0;
        for (Field field : CededBook.class.getDeclaredFields()) {
            int modifiers = field.getModifiers();
            if (!Modifier.isPrivate(modifiers)) {
                shown.add(Modifier.toString(modifiers) + " " + field.getType() + " "
                        + field.getName());
            }
            if (Modifier.isStatic(modifiers)) {
                Check.is(field.getName() + " is final", true, Modifier.isFinal(modifiers));
            } else {
                ofAnObject++;
            }
        }
        Set<String> due = new TreeSet<>();
        for (String name : List.of("SURPLUS", "QUOTA", "EXCESS", "KEPT")) {
            due.add("public static final int " + name);
        }
        Check.is("fields that show", due, shown);
        Check.is("some twenty fields at most", true, ofAnObject <= 20);
    }

    private static void methods() {
        Set<String> shown = new TreeSet<>();
        Set<String> names = new HashSet<>();
        Set<String> hidden = new HashSet<>();
        for (Method method : CededBook.class.getDeclaredMethods()) {
            if (Modifier.isPrivate(method.getModifiers())) {
                hidden.add(method.getName());
            } else {
                Check.is(method.getName() + " is public", Modifier.PUBLIC, method.getModifiers());
                shown.add(told(method));
                names.add(method.getName());
            }
        }
        Check.is("methods that show", new TreeSet<>(Arrays.asList(FACE)), shown);
        hidden.retainAll(names);
        Check.is("private methods with a public name", Set.of(), hidden);
    }

    private static String told(Method method) {
        StringBuilder text = new StringBuilder();
        text.append(method.getReturnType()).append(' ').append(method.getName()).append('(');
        for (int i = 0; i < method.getParameterCount(); i++) {
            text.append(i == 0 ? "" : ", ").append(method.getParameterTypes()[i]);
        }
        text.append(')');
        for (Class<?> thrown : method.getExceptionTypes()) {
            text.append(' ').append(thrown.getSimpleName());
        }
        return text.toString();
    }
}
