import java.io.IOException;
import java.lang.reflect.Constructor;
import java.lang.reflect.Field;
import java.lang.reflect.Method;
import java.lang.reflect.Modifier;
import java.nio.file.Files;
import java.nio.file.Path;
import java.util.ArrayList;
import java.util.Arrays;
import java.util.HashSet;
import java.util.List;
import java.util.Set;
import java.util.TreeSet;
import java.util.regex.Matcher;
import java.util.regex.Pattern;

/** The public face, and the rules of LANGUAGE.md that can be seen from outside or from the words alone. */
public final class FaceTest {
    private static final String FACE = "int house(int) int partner(int,int) int letter(int,int,int) int unseal(int,int)"
        + " int holds(int,int) int join(int,int,int,int,boolean) int leave(int,int,int,int,int) int die(int,int,int,int)"
        + " int circle(int) int rule(int,int) int term(int,int,int,int) int leaf(int,int,int,int) int tear(int,int)"
        + " int earn(int,int,int) int spend(int,int,int) int loose(int,int) int move(int,int,int,int,boolean)"
        + " int lend(int,int,int,boolean) int undo(int) int end(int,int) int close(int) int mend(int,int,int)"
        + " int hidden(int,int,int) int bear(int,int,int) int borne(int) long account(int,int,int)"
        + " int tenure(int,int,int) int who(int,int,int) long stretch(int,int,int) long due(int,int,int)"
        + " int told(int,int) long sum(int,int,int) long entry(int,int,int) int sheet(int,long) int check(int)"
        + " int status() int where()";
    private static final String FORBIDDEN = "\\b(throw|throws|try|catch|finally|synchronized|assert|protected|import static"
        + "|Object|Short|Byte|Double|Float|Character|System\\.out|System\\.err|\\w+Exact)\\b|->|::|@";
    private static final String LIBRARY = "Math\\.(abs|min|max|floorMod|floorDiv)|Arrays\\.(fill|copyOf|copyOfRange)"
        + "|System\\.arraycopy";
    private static final Set<String> STATIC_TYPES = Set.of("int", "long", "boolean", "char", "class java.lang.String",
        "class [I", "class [J", "class [C", "class [B");
    private static final Checks c = new Checks("FaceTest");

    public static void main(String[] args) throws IOException {
        String text = Files.readString(Path.of("src/main/java/PartnersBook.java"));
        String bare = text.replaceAll("(?s)/\\*.*?\\*/", "").replaceAll("//[^\n]*", "");
        face();
        nested();
        statics();
        words(text, bare);
        library(bare);
        loops(bare);
        c.finish();
    }

    private static void face() {
        Class<?> book = PartnersBook.class;
        Set<String> told = new TreeSet<>(Arrays.asList(FACE.replace(") ", ")\n").split("\n")));
        Set<String> found = new TreeSet<>();
        Set<String> names = new HashSet<>();
        for (Method m : book.getDeclaredMethods()) {
            StringBuilder text = new StringBuilder(m.getReturnType() + " " + m.getName() + "(");
            for (Class<?> p : m.getParameterTypes()) {
                text.append(text.charAt(text.length() - 1) == '(' ? "" : ",").append(p);
            }
            if (Modifier.isPublic(m.getModifiers())) {
                found.add(text + ")");
                c.is(m + " is no static one", Modifier.isStatic(m.getModifiers()) ? 1 : 0, 0);
                c.is(m.getName() + " is there once", names.add(m.getName()) ? 1 : 0, 1);
            } else {
                c.is(m + " is private", Modifier.isPrivate(m.getModifiers()) ? 1 : 0, 1);
            }
        }
        c.is("methods " + found, found.equals(told) ? 1 : 0, 1);
        for (Method m : book.getDeclaredMethods()) {
            boolean bears = !Modifier.isPublic(m.getModifiers()) && names.contains(m.getName());
            c.is(m + " bears a public name", bears ? 1 : 0, 0);
        }
        for (Field f : book.getDeclaredFields()) {
            boolean open = !Modifier.isPrivate(f.getModifiers());
            c.is(f + " is open", open ? 1 : 0, f.getName().equals("NONE") ? 1 : 0);
        }
        c.is("NONE", PartnersBook.NONE, -1);
        c.is("final", Modifier.isFinal(book.getModifiers()) ? 1 : 0, 1);
        Constructor<?>[] made = book.getDeclaredConstructors();
        c.is("constructors", made.length, 1);
        c.is("public constructor", Modifier.isPublic(made[0].getModifiers()) ? 1 : 0, 1);
        c.is("constructor's parameters", made[0].getParameterCount(), 0);
    }

    private static void nested() {
        Class<?>[] inside = PartnersBook.class.getDeclaredClasses();
        c.is("at most twelve classes", inside.length + 1 <= 12 ? 1 : 0, 1);
        for (Class<?> k : inside) {
            c.is(k + " is static", Modifier.isStatic(k.getModifiers()) ? 1 : 0, 1);
            for (Method m : k.getDeclaredMethods()) {
                c.is(m + " has at most seven parameters", m.getParameterCount() <= 7 ? 1 : 0, 1);
            }
        }
    }

    private static void statics() {
        List<Class<?>> all = new ArrayList<>(Arrays.asList(PartnersBook.class.getDeclaredClasses()));
        all.add(PartnersBook.class);
        for (Class<?> k : all) {
            int fields = 0;
            for (Field f : k.getDeclaredFields()) {
                boolean isStatic = Modifier.isStatic(f.getModifiers());
                fields += isStatic ? 0 : 1;
                c.is(f + " is final, of a told type", !isStatic || Modifier.isFinal(f.getModifiers())
                    && STATIC_TYPES.contains(f.getType().toString()) ? 1 : 0, 1);
            }
            c.is(k + " has some twenty fields", fields <= 20 ? 1 : 0, 1);
        }
    }

    /** No library but what LANGUAGE.md lists, and none of its texts and lists, which the class doesn't need. */
    private static void library(String bare) {
        Matcher m = Pattern.compile("\\b([A-Z]\\w*[a-z]\\w*)\\.\\w+").matcher(bare);
        while (m.find()) {
            c.is(m.group() + " is in the library", m.group().matches(LIBRARY) ? 1 : 0, 1);
        }
        m = Pattern.compile("(?m)^import .*$").matcher(bare);
        while (m.find()) {
            c.is(m.group(), m.group().equals("import java.util.Arrays;") ? 1 : 0, 1);
        }
        c.is("texts", bare.indexOf('"'), -1);
        c.is("package", bare.indexOf("package "), -1);
        c.is("static blocks", bare.replaceAll("\\s+", " ").indexOf("static {"), -1);
    }

    /** Each loop is a counter against a bound. */
    private static void loops(String bare) {
        c.is("other loops", Pattern.compile("\\b(while|do)\\b").matcher(bare).find() ? 1 : 0, 0);
        Matcher m = Pattern.compile("\\bfor \\(.*").matcher(bare);
        while (m.find()) {
            boolean counts = m.group().matches("for \\(int (\\w+) = [^;]+; \\1 <=? [^;]+; \\1\\+\\+\\) \\{");
            c.is("a counter against a bound: " + m.group(), counts ? 1 : 0, 1);
        }
    }

    private static void words(String text, String bare) {
        Matcher m = Pattern.compile(FORBIDDEN).matcher(bare);
        c.is("a forbidden word" + (m.find() ? ": " + m.group() : ""), m.reset().find() ? 1 : 0, 0);
        c.is("signs 1 to 127", text.chars().allMatch(sign -> sign > 0 && sign < 128) ? 1 : 0, 1);
        int longest = 0;
        int since = 0;
        for (String line : text.split("\n")) {
            boolean head = line.matches("    (    )?[a-zA-Z].*\\) \\{") && !line.trim().startsWith("if");
            since = head ? 0 : since + 1;
            longest = line.matches("    (    )?\\}") ? Math.max(longest, since) : longest;
        }
        c.is("methods stay short, the longest has " + longest, longest <= 60 ? 1 : 0, 1);
    }
}
