import java.io.IOException;
import java.lang.reflect.Constructor;
import java.lang.reflect.Field;
import java.lang.reflect.Method;
import java.lang.reflect.Modifier;
import java.nio.file.Files;
import java.nio.file.Path;
import java.util.Set;
import java.util.TreeSet;
import java.util.regex.Matcher;
import java.util.regex.Pattern;

/** The document's face and no more, and those rules of LANGUAGE.md that a program can look at. */
public final class FaceTest {
    private static final Path SOURCE = Path.of("src/main/java/ShardRows.java");
    private static final Set<String> FACE = Set.of(
        "int test(int)", "boolean time(int,int)", "boolean join(int,int)", "boolean shards(int)", "int mean()",
        "int groups()", "int split()", "int shard(int)", "int sum(int)", "int moved()", "int empty(int)",
        "int draw(int,long)", "int drawn(int)", "int result(int,int,int)", "boolean again(int)", "int strange()",
        "int missing(int)", "int verdict()", "int tries(int)");

    public static void main(String[] args) throws IOException {
        Check.part("face");
        face();
        Check.part("classes");
        classes();
        Check.part("words");
        words();
        Check.end();
    }

    private static String parameters(Class<?>[] types) {
        StringBuilder text = new StringBuilder("(");
        for (Class<?> type : types) {
            text.append(text.length() > 1 ? "," : "").append(type.getName());
        }
        return text.append(")").toString();
    }

    private static void face() {
        Class<?> c = ShardRows.class;
        Check.due("modifiers of the class", c.getModifiers(), Modifier.PUBLIC | Modifier.FINAL);
        Set<String> seen = new TreeSet<>();
        Set<String> names = new TreeSet<>();
        for (Method m : c.getDeclaredMethods()) {
            if (!Modifier.isPrivate(m.getModifiers())) {
                Check.due("modifiers of " + m, m.getModifiers(), Modifier.PUBLIC);
                seen.add(m.getReturnType().getName() + " " + m.getName() + parameters(m.getParameterTypes()));
                names.add(m.getName());
            }
        }
        if (!seen.equals(new TreeSet<>(FACE))) {
            Check.tell("methods " + seen);
        }
        for (Method m : c.getDeclaredMethods()) {
            if (Modifier.isPrivate(m.getModifiers()) && names.contains(m.getName())) {
                Check.tell("a private method with the name of a public one: " + m);
            }
        }
        for (Constructor<?> made : c.getDeclaredConstructors()) {
            Check.due("modifiers of " + made, made.getModifiers(), Modifier.PUBLIC);
            Check.due("(int) is what it takes", parameters(made.getParameterTypes()).equals("(int)"), true);
        }
        for (Field f : c.getDeclaredFields()) {
            if (!Modifier.isPrivate(f.getModifiers())) {
                Check.due("field " + f, f.toString().equals("public static final int ShardRows.NONE"), true);
            }
        }
    }

    private static void classes() {
        Class<?>[] inside = ShardRows.class.getDeclaredClasses();
        Check.due("at most twelve classes", inside.length <= 11, true);
        for (Class<?> c : inside) {
            Check.due(c + " is static", Modifier.isStatic(c.getModifiers()), true);
            Check.due(c + " is public", Modifier.isPublic(c.getModifiers()), false);
            int fields = 0;
            for (Field f : c.getDeclaredFields()) {
                boolean fixed = Modifier.isStatic(f.getModifiers());
                fields += fixed ? 0 : 1;
                Check.due(f + " is no static state", !fixed || Modifier.isFinal(f.getModifiers()), true);
            }
            Check.due(c + " has at most twenty fields", fields <= 20, true);
            for (Method m : c.getDeclaredMethods()) {
                Check.due(m + " has at most seven parameters", m.getParameterCount() <= 7, true);
            }
        }
    }

    private static void words() throws IOException {
        String text = Files.readString(SOURCE);
        String code = text.replaceAll("(?s)/\\*.*?\\*/", " ").replaceAll("//[^\n]*", " ");
        String[] refused = {"\\bthrow\\b", "\\bthrows\\b", "\\btry\\b", "\\bcatch\\b", "\\bsynchronized\\b",
            "\\bassert\\b", "->", "::", "\\bpackage\\b", "\\bprotected\\b", "\\bstatic\\s*\\{", "\\bThread\\b",
            "\\bRandom\\b", "\\w+Exact\\b", "\\bSystem\\.(?!arraycopy)"};
        for (String word : refused) {
            Matcher found = Pattern.compile(word).matcher(code);
            if (found.find()) {
                Check.tell("the source has '" + found.group() + "'");
            }
        }
        // Rows are made once and used again: no call makes an array or an object.
        for (String line : code.split("\n")) {
            boolean makes = line.matches(".*\\bnew\\b.*");
            boolean inField = line.matches("\\s*(private )?final \\w+(\\[\\])+ \\w+ = new .*");
            boolean inConstructor = line.matches("\\s*\\w+ = new [A-Z]\\w+\\(\\);");
            Check.due("made in a constructor: " + line.trim(), !makes || inField || inConstructor, true);
        }
    }
}
