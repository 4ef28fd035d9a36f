import java.io.IOException;
import java.lang.reflect.Method;
import java.lang.reflect.Modifier;
import java.nio.file.Files;
import java.nio.file.Path;
import java.util.HashMap;
import java.util.List;
import java.util.Map;
import java.util.TreeMap;
import java.util.TreeSet;
import java.util.regex.Matcher;
import java.util.regex.Pattern;

/** README.md: its example answers as it says, and its table has every call of the class. */
public final class ReadmeTest {
    /** A name for the answer, the call, its arguments, and what the line says of it. */
    private static final Pattern EXAMPLE =
            Pattern.compile("(?:int (\\w+) = )?book\\.(\\w+)\\((.*)\\); *// (.*)");
    private static final Pattern ROW =
            Pattern.compile("\\| `(\\w+)\\((.*)\\)` \\| [^|]+ \\|([^|]*)\\|");

    public static void main(String[] args) throws IOException {
        List<String> readme = Files.readAllLines(Path.of("README.md"));
        exampleAnswersAsItSays(readme);
        tableHasEveryCall(readme);
        Check.end();
    }

    private static void exampleAnswersAsItSays(List<String> readme) {
        CededBook book = new CededBook();
        Map<String, String> named = new HashMap<>();
        TreeSet<String> shown = new TreeSet<>();
        int from = readme.indexOf("CededBook book = new CededBook();") + 1;
        for (int at = from; !readme.get(at).equals("```"); at++) {
            if (readme.get(at).isEmpty()) {
                continue;
            }
            Matcher line = EXAMPLE.matcher(readme.get(at));
            Check.is("a line of the example: " + readme.get(at), true, line.matches());
            StringBuilder call = new StringBuilder(line.group(2));
            for (String argument : line.group(3).replace("CededBook.", "").split(", *")) {
                call.append(' ').append(named.getOrDefault(argument, argument));
            }
            String answer = Calls.answer(book, call.toString());
            Check.is(readme.get(at), said(line.group(2), line.group(4)), answer);
            if (line.group(1) != null) {
                named.put(line.group(1), answer);
            }
            shown.add(line.group(2));
        }
        Check.is("calls shown", "[borne, byEvent, carried, change, closeYear, commission, commute,"
                + " lose, net, part, premium, reinstatement, setCommission, setEvents, setExcess,"
                + " setProfit, setShares, share, write]", shown.toString());
    }

    private static String said(String name, String text) {
        if (text.startsWith("throws ")) {
            return text.substring("throws ".length()).split(":")[0];
        }
        return name.startsWith("set") ? "nothing" : text.split(":")[0];
    }

    /** Each with as many arguments, and with the exceptions of its throws clause in their order. */
    private static void tableHasEveryCall(List<String> readme) {
        Map<String, String> due = new TreeMap<>();
        for (Method method : CededBook.class.getDeclaredMethods()) {
            if (Modifier.isPublic(method.getModifiers())) {
                due.put(method.getName(), method.getParameterCount() + thrown(method));
            }
        }
        Map<String, String> told = new TreeMap<>();
        for (String text : readme) {
            Matcher row = ROW.matcher(text);
            if (row.matches()) {
                int count = row.group(2).isEmpty() ? 0 : row.group(2).split(", ").length;
                told.put(row.group(1), count + refusals(row.group(3)));
            }
        }
        Check.is("rows of the table", due, told);
    }

    private static String thrown(Method method) {
        StringBuilder text = new StringBuilder();
        for (Class<?> each : method.getExceptionTypes()) {
            text.append(' ').append(each.getSimpleName());
        }
        return text.toString();
    }

    private static String refusals(String cell) {
        StringBuilder text = new StringBuilder();
        for (String each : cell.strip().split("; *")) {
            String word = each.split(":")[0];
            text.append(word.equals("index") ? " " + Calls.INDEX : "");
            text.append(word.equals("argument") ? " " + Calls.ARGUMENT : "");
            text.append(word.equals("state") ? " " + Calls.STATE : "");
        }
        return text.toString();
    }
}
