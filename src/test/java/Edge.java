import java.lang.reflect.InvocationTargetException;
import java.lang.reflect.Method;
import java.util.Arrays;
import java.util.function.Supplier;

/** Calls at their bounds, each on a new object that is made in the same way; what is refused must change nothing. */
final class Edge {
    private final Check check;
    private final Supplier<GridTracks> made;
    private final String[] untouched = new String[Probe.PARTS];

    Edge(Check check, Supplier<GridTracks> made) {
        this.check = check;
        this.made = made;
        for (int part = 0; part < Probe.PARTS; part++) {
            untouched[part] = Probe.part(made.get(), part);
        }
    }

    /** Objects that were told a text. */
    Edge(Check check, String text) {
        this(check, () -> check.told(text));
    }

    /** The call answers so; behind it the object can be asked. */
    GridTracks taken(int want, String name, int... args) {
        GridTracks x = made.get();
        check.due(words(name, args), call(x, name, args), want);
        return x;
    }

    /** The call answers so, and all is as if it had not been. */
    void refused(int want, String name, int... args) {
        for (int part = 0; part < Probe.PARTS; part++) {
            GridTracks x = made.get();
            check.due(words(name, args), call(x, name, args), want);
            String behind = Probe.part(x, part);
            check.holds(words(name, args) + " changes nothing (part " + part + ")", behind.equals(untouched[part]));
        }
    }

    /** One number of the call runs over its bounds: least and most are taken, what is outside is BAD and changes nothing. */
    void bounds(int least, int most, String name, int which, int... args) {
        for (int v : new int[] {least, most}) {
            int[] with = with(args, which, v);
            check.holds(words(name, with) + " is taken", call(made.get(), name, with) != GridTracks.BAD);
        }
        for (int v : new int[] {least - 1, most + 1, Integer.MIN_VALUE, Integer.MAX_VALUE}) {
            refused(GridTracks.BAD, name, with(args, which, v));
        }
    }

    private static int[] with(int[] args, int which, int v) {
        int[] all = args.clone();
        all[which] = v;
        return all;
    }

    private static String words(String name, int... args) {
        return name + Arrays.toString(args);
    }

    static int call(GridTracks x, String name, int... args) {
        for (Method m : GridTracks.class.getMethods()) {
            if (m.getDeclaringClass() == GridTracks.class && m.getName().equals(name) && m.getParameterCount() == args.length) {
                return invoke(x, m, args);
            }
        }
        throw new IllegalArgumentException("no call " + words(name, args));
    }

    private static int invoke(GridTracks x, Method m, int... args) {
        Object[] all = new Object[args.length];
        for (int k = 0; k < args.length; k++) {
            all[k] = args[k];
        }
        try {
            return (Integer) m.invoke(x, all);
        } catch (IllegalAccessException | InvocationTargetException e) {
            throw new IllegalStateException(words(m.getName(), args), e);
        }
    }
}
