import java.lang.reflect.Array;
import java.lang.reflect.Field;
import java.lang.reflect.InvocationTargetException;
import java.lang.reflect.Method;
import java.lang.reflect.Modifier;
import java.util.ArrayList;
import java.util.List;
import java.util.Map;
import java.util.Set;
import java.util.TreeMap;
import java.util.TreeSet;
import java.util.function.Supplier;

/**
 * Pairs of objects that were told the same. One of them gets a call more: if that was refused, both
 * answer alike ever after and hold the same numbers; if it was taken, they may not.
 */
final class Twins {
    /** Rows that a call may write on whatever it answers: the next one that reads them writes them first. */
    private static final Set<String> SCRATCH = Set.of(
        "JumpFlows.drawn", "Search.from", "Search.next", "Search.columns", "Trail.path", "Trail.numbers",
        "Trail.length", "Fences.inside", "Fences.next", "Hand.next");

    private final Due due;
    private final Supplier<JumpFlows> maker;

    Twins(Due due, Supplier<JumpFlows> maker) {
        this.due = due;
        this.maker = maker;
    }

    /** A call that is refused: it answers as told and leaves no trace. */
    void refused(int answer, String name, Object... given) {
        JumpFlows called = maker.get();
        due.is(text(name, given), ask(called, name, given), answer);
        due.is(text(name, given) + " leaves no trace", sameAsTwin(called) ? 1 : 0, 1);
    }

    /** A call that changes something: it answers as told and leaves a trace. */
    void taken(int answer, String name, Object... given) {
        JumpFlows called = maker.get();
        due.is(text(name, given), ask(called, name, given), answer);
        due.is(text(name, given) + " leaves a trace", sameAsTwin(called) ? 1 : 0, 0);
    }

    /** A call that only asks. */
    void asked(int answer, String name, Object... given) {
        refused(answer, name, given);
    }

    private boolean sameAsTwin(JumpFlows called) {
        JumpFlows twin = maker.get();
        boolean alike = answers(called).equals(answers(twin));
        return numbers(called).equals(numbers(twin)) && alike && lastAnswers(called).equals(lastAnswers(twin));
    }

    static int ask(JumpFlows x, String name, Object... given) {
        try {
            for (Method m : JumpFlows.class.getMethods()) {
                if (m.getName().equals(name) && m.getDeclaringClass() == JumpFlows.class) {
                    return (Integer) m.invoke(x, given);
                }
            }
        } catch (IllegalAccessException | InvocationTargetException e) {
            throw new IllegalStateException(text(name, given), e);
        }
        throw new IllegalStateException("no method " + name);
    }

    private static String text(String name, Object... given) {
        List<String> parts = new ArrayList<>();
        for (Object one : given) {
            parts.add(String.valueOf(one));
        }
        return name + "(" + String.join(", ", parts) + ")";
    }

    /** Calls that only ask. */
    private static List<Integer> answers(JumpFlows x) {
        List<Integer> all = new ArrayList<>();
        for (int what = 0; what < 8; what++) {
            all.add(x.now(what));
        }
        for (int what = 0; what < 5; what++) {
            all.add(x.count(what));
        }
        all.add(x.safe());
        all.add(x.holds());
        for (int h = 0; h < Math.min(8, x.count(2)); h++) {
            for (int what = 0; what < 6; what++) {
                all.add(x.heap(h, what));
                all.add(x.side(h, what / 2, what % 2 == 0));
            }
        }
        for (int i = 0; i < Math.min(4, x.shown()); i++) {
            for (int what = 0; what < 5; what++) {
                all.add(x.shownAt(i, what));
            }
        }
        for (int m = 0; m < x.count(0); m++) {
            all.add(x.many(m));
        }
        return all;
    }

    /** Calls that tell what was told ahead of them. */
    private static List<Integer> lastAnswers(JumpFlows x) {
        List<Integer> all = new ArrayList<>();
        all.add(x.start(0));
        all.add(x.wrong(0));
        all.add(x.most(12));
        all.add(x.tick(0, 0, 0));
        all.add(x.leap(0, 0, 0, 0));
        all.add(x.run(0, 0, 0));
        all.add(x.safe());
        all.add(x.open());
        all.add(x.mode());
        all.add(x.jump(0, 0));
        for (int k = 0; k < 4; k++) {
            all.add(x.lay(k, 0, 0));
            all.add(x.draw(1, 0, k, 0, 0));
        }
        return all;
    }

    /** All numbers that an object holds, by the names of the fields that lead to them. */
    private static Map<String, String> numbers(JumpFlows x) {
        Map<String, String> found = new TreeMap<>();
        Set<String> left = new TreeSet<>();
        collect("", x, found, left);
        if (!left.equals(SCRATCH)) {
            throw new IllegalStateException("the names of the rows to write on are " + left);
        }
        return found;
    }

    private static void collect(String path, Object at, Map<String, String> found, Set<String> left) {
        for (Field f : at.getClass().getDeclaredFields()) {
            String name = at.getClass().getSimpleName() + "." + f.getName();
            if (Modifier.isStatic(f.getModifiers())) {
                continue;
            }
            if (SCRATCH.contains(name)) {
                left.add(name);
                continue;
            }
            f.setAccessible(true);
            try {
                collectOne(path + "/" + f.getName(), f.get(at), found, left);
            } catch (IllegalAccessException e) {
                throw new IllegalStateException(name, e);
            }
        }
    }

    private static void collectOne(String path, Object one, Map<String, String> found, Set<String> left) {
        if (one == null || one instanceof Number || one instanceof Boolean) {
            found.put(path, String.valueOf(one));
        } else if (one.getClass().isArray()) {
            for (int i = 0; i < Array.getLength(one); i++) {
                collectOne(path + "/" + i, Array.get(one, i), found, left);
            }
        } else {
            collect(path, one, found, left);
        }
    }
}
