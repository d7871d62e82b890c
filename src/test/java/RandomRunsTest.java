import java.lang.reflect.InvocationTargetException;
import java.lang.reflect.Method;
import java.util.ArrayList;
import java.util.Arrays;
import java.util.Comparator;
import java.util.List;
import java.util.Random;

/** All promises: runs of calls by a fixed seed on the class and on the model, which must answer alike. */
public final class RandomRunsTest {
    private static final int RUNS = 6000;
    private static final int CALLS = 120;
    private static final String[] WORDS = {"cols", "gap", "width", "high", "line", "item", "repeat", "fix", "auto", "flex", "at", "col", "row",
        "a", "b", "h", "i", ";", "$", "0", "1", "2", "6", "7", "12", "99", "100", "1000", "  "};
    private static final Check check = new Check("RandomRunsTest");

    private final Random random;
    private final GridTracks real = new GridTracks();
    private final Model model = new Model();
    private final List<String> calls = new ArrayList<>();
    private boolean alike = true;

    private RandomRunsTest(long seed) {
        random = new Random(seed);
    }

    public static void main(String[] args) throws ReflectiveOperationException {
        List<Method> face = new ArrayList<>(Arrays.asList(GridTracks.class.getDeclaredMethods()));
        face.removeIf(m -> !java.lang.reflect.Modifier.isPublic(m.getModifiers()));
        face.sort(Comparator.comparing(Method::getName));
        check.due("methods of the face", face.size(), 32);
        int differ = 0;
        for (int run = 0; run < RUNS && differ < 3; run++) {
            RandomRunsTest one = new RandomRunsTest(run);
            one.run(face);
            check.holds("run " + run, one.alike);
            differ += one.alike ? 0 : 1;
        }
        check.end();
    }

    private void run(List<Method> face) throws ReflectiveOperationException {
        tell(face);
        for (int k = 0; k < CALLS && alike; k++) {
            if (random.nextInt(60) == 0) {
                tell(face);
            }
            Method m = face.get(random.nextInt(face.size()));
            // a text that is taken by chance is an empty one, which would leave little to ask about
            if (!m.getName().equals("text") || random.nextInt(10) == 0) {
                call(m, arguments(m));
            }
        }
        askAll(face);
    }

    private void call(Method m, Object... args) throws ReflectiveOperationException {
        if (!alike) {
            return;
        }
        Method twin = Model.class.getDeclaredMethod(m.getName(), m.getParameterTypes());
        calls.add(m.getName() + Arrays.toString(args));
        try {
            Object got = m.invoke(real, args);
            Object due = twin.invoke(model, args);
            alike = got.equals(due);
            if (!alike) {
                System.out.println(calls + " answered " + got + ", due is " + due);
            }
        } catch (InvocationTargetException e) {
            alike = false;
            System.out.println(calls + " threw " + e.getCause());
        }
    }

    private static Method named(List<Method> face, String name) {
        for (Method m : face) {
            if (m.getName().equals(name)) {
                return m;
            }
        }
        throw new IllegalStateException(name);
    }

    private void askAll(List<Method> face) throws ReflectiveOperationException {
        ask(face, "rule", 8, 0);
        ask(face, "count", 6, 0);
        ask(face, "line", 8, 0);
        ask(face, "total", 2, 0);
        ask(face, "column", 6, 4);
        ask(face, "row", 12, 2);
        ask(face, "item", 10, 8);
        ask(face, "box", 10, 4);
        ask(face, "over", 10, 2);
        ask(face, "at", 6, 12);
        ask(face, "hole", 7, 5);
        call(named(face, "empty"));
        call(named(face, "fault"));
        call(named(face, "torn"));
    }

    private void ask(List<Method> face, String name, int firsts, int seconds) throws ReflectiveOperationException {
        for (int a = 0; a < firsts; a++) {
            if (seconds == 0) {
                call(named(face, name), a);
            }
            for (int b = 0; b < seconds; b++) {
                call(named(face, name), a, b);
            }
        }
    }

    private Object[] arguments(Method m) {
        int n = m.getParameterCount();
        Object[] args = new Object[n];
        int wild = random.nextInt(30);
        for (int k = 0; k < n; k++) {
            args[k] = argument(m.getName(), k);
            if (wild == k) {
                int[] edges = {-5, -4, -1, 0, 1, 7, 12, 13, 20, 21, 40, 41, 99, 100, 999, 1000, Integer.MAX_VALUE, Integer.MIN_VALUE};
                args[k] = edges[random.nextInt(edges.length)];
            }
        }
        return args;
    }

    private int argument(String name, int k) {
        switch (name) {
            case "feed": return random.nextInt(128);
            case "end": return random.nextInt(12) - 1;
            case "add": return new int[] {1 + random.nextInt(3), 1 + random.nextInt(4), random.nextInt(100), random.nextInt(100)}[k];
            case "hole": return 1 + random.nextInt(4);
            case "pin": return k == 0 ? random.nextInt(10) : random.nextInt(3) == 0 ? -4 : random.nextInt(k == 1 ? 4 : 12);
            case "set": return k == 0 ? random.nextInt(10) : random.nextInt(k == 1 ? 4 : 5);
            case "track": return k == 0 ? random.nextInt(6) : random.nextInt(k == 1 ? 3 : 10) * (k == 2 ? random.nextInt(2) : 1);
            case "width": return random.nextInt(4) == 0 ? -4 : random.nextInt(300);
            case "gap": return random.nextInt(21);
            case "high": return random.nextInt(30);
            case "scatter": return k == 0 ? random.nextInt() : 1 + random.nextInt(4);
            case "sheet": return random.nextInt(k == 0 ? 2 : k == 1 ? 3 : 40);
            case "lay": return random.nextInt(k == 0 ? 2 : k == 1 ? 12 : 5) + (k == 2 && random.nextInt(4) == 0 ? random.nextInt() << 8 : 0);
            case "read": return random.nextInt(k == 0 ? 3 : k == 1 ? 3 : k == 2 ? 8 : 4);
            case "keep": case "back": return random.nextInt(2);
            default: return random.nextInt(k == 0 ? 10 : 8);
        }
    }

    private void tell(List<Method> face) throws ReflectiveOperationException {
        String text = random.nextInt(8) == 0 ? nonsense() : sense();
        if (random.nextInt(4) == 0) {
            text = spoilt(text);
        }
        for (int k = 0; k < text.length(); k++) {
            call(named(face, "feed"), (int) text.charAt(k));
        }
        call(named(face, "text"));
        call(named(face, "fault"));
    }

    private String nonsense() {
        StringBuilder b = new StringBuilder();
        for (int k = random.nextInt(20); k > 0; k--) {
            b.append(WORDS[random.nextInt(WORDS.length)]).append(random.nextInt(6) == 0 ? "" : " ");
        }
        return b.toString();
    }

    private String spoilt(String text) {
        String[] words = text.split("(?<=[ ;])|(?=[;])");
        int k = random.nextInt(words.length);
        switch (random.nextInt(3)) {
            case 0: words[k] = ""; break;
            case 1: words[k] = words[k] + words[k]; break;
            default: words[k] = WORDS[random.nextInt(WORDS.length)] + " "; break;
        }
        return String.join("", words);
    }

    private String sense() {
        int columns = 1 + random.nextInt(6);
        StringBuilder b = new StringBuilder();
        if (random.nextInt(3) == 0) {
            b.append("line ").append("abcdefgh".charAt(random.nextInt(3))).append(' ').append(random.nextInt(columns + 1)).append(';');
        }
        b.append(columnsLine(columns));
        if (random.nextInt(2) == 0) {
            b.append("gap ").append(random.nextInt(21)).append(' ').append(random.nextInt(21)).append("; ");
        }
        if (random.nextInt(2) == 0) {
            b.append("width ").append(random.nextInt(300)).append(';');
        }
        if (random.nextInt(3) == 0) {
            b.append("high ").append(random.nextInt(100)).append(" ;");
        }
        for (int k = random.nextInt(12); k > 0; k--) {
            b.append(itemLine(columns));
        }
        return b.length() > 320 ? b.substring(0, b.lastIndexOf(";", 319) + 1) : b.toString();
    }

    private String columnsLine(int columns) {
        int times = 1;
        for (int t = 2; t <= columns; t++) {
            times = columns % t == 0 && random.nextInt(3) == 0 ? t : times;
        }
        StringBuilder b = new StringBuilder(times > 1 ? "cols repeat " + times : "cols");
        int tooMany = random.nextInt(12) == 0 ? random.nextInt(7) : 0;
        for (int k = 0; k < columns / times + tooMany; k++) {
            String[] kinds = {" auto", " fix " + random.nextInt(40), " flex " + (1 + random.nextInt(9))};
            b.append(kinds[random.nextInt(3)]);
        }
        return b.append(';').toString();
    }

    private String itemLine(int columns) {
        int wide = 1 + (random.nextInt(3) == 0 ? random.nextInt(columns) : 0);
        int tall = 1 + random.nextInt(4);
        StringBuilder b = new StringBuilder("item " + wide + " " + tall + " " + random.nextInt(100) + " " + random.nextInt(100));
        if (random.nextInt(3) == 0) {
            b.append(" col ").append(random.nextInt(columns - wide + 1));
        } else if (random.nextInt(8) == 0) {
            b.append(" at ").append("abc".charAt(random.nextInt(3)));
        }
        if (random.nextInt(3) == 0) {
            b.append(" row ").append(random.nextInt(13 - tall));
        }
        return b.append(';').toString();
    }
}
