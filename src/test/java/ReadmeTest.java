import java.io.IOException;
import java.lang.reflect.Method;
import java.lang.reflect.Modifier;
import java.nio.file.Files;
import java.nio.file.Path;
import java.util.HashMap;
import java.util.Map;
import java.util.regex.Matcher;
import java.util.regex.Pattern;

/** README.md: its example answers what its comments say, and it names every call, group and ground. */
public final class ReadmeTest {
    private static final Pattern LINE = Pattern.compile("(?:int (\\w+) = )?book\\.(\\w+)\\((.*)\\);\\s+// (-?\\d+): ?.*");
    private static final String[] GROUPS = {"Houses, partners, seats:", "Rules:", "Entries:", "Years:", "What is told:"};
    private static final Checks c = new Checks("ReadmeTest");

    public static void main(String[] args) throws IOException, ReflectiveOperationException {
        String text = Files.readString(Path.of("README.md"));
        example(text);
        calls(text);
        grounds(text);
        c.finish();
    }

    private static void example(String text) throws ReflectiveOperationException {
        int from = text.indexOf("```java\n") + 8;
        String[] lines = text.substring(from, text.indexOf("```", from)).split("\n");
        c.is("the example's first line makes a book",
            lines[0].equals("PartnersBook book = new PartnersBook();") ? 1 : 0, 1);
        PartnersBook book = new PartnersBook();
        Map<String, Long> names = new HashMap<>();
        for (int i = 1; i < lines.length; i++) {
            Matcher m = LINE.matcher(lines[i]);
            c.is("a call and its answer: " + lines[i], m.matches() ? 1 : 0, 1);
            if (m.matches()) {
                long answer = ask(book, m.group(2), m.group(3), names);
                c.is(lines[i], answer, Long.parseLong(m.group(4)));
                names.put(m.group(1) == null ? "" : m.group(1), answer);
            }
        }
    }

    private static long ask(PartnersBook book, String call, String told, Map<String, Long> names)
            throws ReflectiveOperationException {
        String[] words = told.isEmpty() ? new String[0] : told.split(", ");
        for (Method m : PartnersBook.class.getMethods()) {
            if (m.getName().equals(call) && m.getParameterCount() == words.length) {
                Object[] values = new Object[words.length];
                for (int i = 0; i < words.length; i++) {
                    values[i] = value(words[i], m.getParameterTypes()[i], names);
                }
                return ((Number) m.invoke(book, values)).longValue();
            }
        }
        throw new IllegalArgumentException("no call " + call + " of " + words.length);
    }

    private static Object value(String word, Class<?> type, Map<String, Long> names) {
        if (type == boolean.class) {
            return Boolean.valueOf(word);
        }
        long v = names.containsKey(word) ? names.get(word) : Long.parseLong(word);
        return type == int.class ? (Object) (int) v : (Object) v;
    }

    /** Each call stands in a table once, with as many arguments as it has. */
    private static void calls(String text) {
        int calls = 0;
        for (Method m : PartnersBook.class.getDeclaredMethods()) {
            if (!Modifier.isPublic(m.getModifiers())) {
                continue;
            }
            calls++;
            Matcher row = Pattern.compile("(?m)^\\|.*`" + m.getName() + "\\(([^)]*)\\)`.* \\|$").matcher(text);
            boolean found = row.find();
            c.is(m.getName() + " is told", found ? 1 : 0, 1);
            int arguments = !found || row.group(1).isEmpty() ? 0 : row.group(1).split(", ").length;
            c.is(m.getName() + "'s arguments", arguments, m.getParameterCount());
        }
        c.is("calls", calls, 37);
        for (String group : GROUPS) {
            c.is("group " + group, text.contains("\n" + group + " ") ? 1 : 0, 1);
        }
    }

    private static void grounds(String text) {
        String refused = text.substring(Math.max(0, text.indexOf("\n## Refused calls")));
        for (int status = 0; status <= 10; status++) {
            c.is("status " + status + " is told", refused.contains("\n| " + status + " | ") ? 1 : 0, 1);
        }
        c.is("what is answered", refused.contains("`PartnersBook.NONE` (-1)") ? 1 : 0, 1);
        c.is("how to run the tests", refused.contains("\n## Tests\n\nRun `.ci/run`") ? 1 : 0, 1);
    }
}
