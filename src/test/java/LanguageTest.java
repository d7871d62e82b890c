import java.io.IOException;
import java.lang.reflect.Constructor;
import java.lang.reflect.Field;
import java.lang.reflect.Method;
import java.lang.reflect.Modifier;
import java.nio.file.Files;
import java.nio.file.Path;
import java.util.Arrays;
import java.util.List;
import java.util.Set;
import java.util.TreeSet;
import java.util.regex.Matcher;
import java.util.regex.Pattern;

/** LANGUAGE.md, as far as it can be seen from the face and the words of the source. */
public final class LanguageTest {
    private static final Check check = new Check("LanguageTest");
    private static final Set<String> FACE = new TreeSet<>(Arrays.asList("feed(1)", "end(1)", "text(0)", "fault(0)", "rule(1)", "column(2)",
        "row(2)", "item(2)", "line(1)", "at(2)", "box(2)", "over(2)", "total(1)", "empty(0)", "hole(2)", "add(4)", "drop(1)", "pin(3)",
        "set(3)", "swap(2)", "track(3)", "width(1)", "gap(2)", "high(1)", "scatter(2)", "keep(1)", "back(1)", "sheet(3)", "lay(3)",
        "read(4)", "torn(0)", "count(1)"));
    private static final List<String> REFUSED = List.of("throw", "throws", "try", "catch", "finally", "synchronized", "assert", "Object",
        "protected", "volatile", "native", "transient", "strictfp", "var", "Exception", "toString", "hashCode", "System.out", "System.exit",
        "System.nanoTime", "System.currentTimeMillis", "Thread", "Random", "package", "yield");

    public static void main(String[] args) throws IOException {
        face();
        insideClasses();
        words(Files.readString(Path.of(args[0])));
        check.end();
    }

    private static void face() {
        Class<?> face = GridTracks.class;
        check.holds("public and final", Modifier.isPublic(face.getModifiers()) && Modifier.isFinal(face.getModifiers()));
        check.due("constructors", face.getDeclaredConstructors().length, 1);
        for (Constructor<?> made : face.getDeclaredConstructors()) {
            check.holds("the public constructor", Modifier.isPublic(made.getModifiers()) && made.getParameterCount() == 0);
        }
        Set<String> seen = new TreeSet<>();
        for (Method m : face.getDeclaredMethods()) {
            if (Modifier.isPublic(m.getModifiers())) {
                seen.add(m.getName() + "(" + m.getParameterCount() + ")");
                check.holds(m + " answers an int", m.getReturnType() == int.class && !Modifier.isStatic(m.getModifiers()));
            } else {
                check.holds(m + " is private", Modifier.isPrivate(m.getModifiers()));
                check.holds(m + " has a name of its own", isOwnName(m.getName()));
            }
        }
        check.holds("the face is the document's: " + seen, seen.equals(FACE));
        Set<String> constants = new TreeSet<>();
        for (Field f : face.getDeclaredFields()) {
            if (!Modifier.isPrivate(f.getModifiers())) {
                constants.add(f.getName());
            }
        }
        check.holds("no constant more: " + constants, constants.equals(Set.of("BAD", "STATE", "FULL", "NONE")));
    }

    private static boolean isOwnName(String name) {
        for (String m : FACE) {
            if (m.startsWith(name + "(")) {
                return false;
            }
        }
        return true;
    }

    private static void insideClasses() {
        Class<?>[] inside = GridTracks.class.getDeclaredClasses();
        check.holds("at most twelve classes", inside.length + 1 <= 12);
        fields(GridTracks.class);
        for (Class<?> c : inside) {
            check.holds(c + " is static", Modifier.isStatic(c.getModifiers()));
            check.holds(c + " is not public", !Modifier.isPublic(c.getModifiers()) && !Modifier.isProtected(c.getModifiers()));
            fields(c);
            for (Method m : c.getDeclaredMethods()) {
                check.holds(m + " has a name of its own", isOwnName(m.getName()));
                check.holds(m + " takes at most seven", m.getParameterCount() <= 7);
            }
        }
    }

    private static void fields(Class<?> c) {
        int own = 0;
        for (Field f : c.getDeclaredFields()) {
            check.holds(f + " is final if it is static", !Modifier.isStatic(f.getModifiers()) || Modifier.isFinal(f.getModifiers()));
            own += Modifier.isStatic(f.getModifiers()) ? 0 : 1;
        }
        check.holds(c + " has at most twenty fields", own <= 20);
    }

    private static void words(String source) {
        String bare = source.replaceAll("(?s)/\\*.*?\\*/", " ").replaceAll("//[^\n]*", " ").replaceAll("\"[^\"]*\"", "\"\"");
        for (String word : REFUSED) {
            check.holds("no " + word, !Pattern.compile("\\b" + Pattern.quote(word) + "\\b").matcher(bare).find());
        }
        check.holds("no lambda", !bare.contains("->"));
        check.holds("no method reference", !bare.contains("::"));
        check.holds("no Exact", !bare.contains("Exact"));
        check.holds("no mark above a declaration", !bare.contains("@"));
        Matcher imported = Pattern.compile("import ([^;]*);").matcher(bare);
        while (imported.find()) {
            check.holds("import of " + imported.group(1), imported.group(1).equals("java.util.Arrays"));
        }
        Matcher library = Pattern.compile("\\b(Arrays|Math|System|Integer|Long)\\.(\\w+)").matcher(bare);
        Set<String> known = Set.of("Arrays.fill", "Math.max", "System.arraycopy");
        while (library.find()) {
            check.holds(library.group() + " is known", known.contains(library.group()));
        }
        check.holds("signs 10, 32 to 126 alone", source.matches("(?s)[\n -~]*"));
        methodsAreShort(source);
    }

    /** By the indent: a method begins at a line that ends with an opening brace and has a bracket, at 4 or 8 blanks. */
    private static void methodsAreShort(String source) {
        String[] lines = source.split("\n");
        for (int k = 0; k < lines.length; k++) {
            Matcher head = Pattern.compile("( {4}| {8})[a-zA-Z].*\\).*\\{").matcher(lines[k]);
            if (head.matches()) {
                int last = k;
                while (last < lines.length && !lines[last].equals(head.group(1) + "}")) {
                    last++;
                }
                check.holds("at most sixty lines: " + lines[k].trim(), last - k <= 60);
            }
        }
    }
}
