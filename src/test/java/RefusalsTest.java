import java.lang.reflect.InvocationTargetException;
import java.lang.reflect.Method;
import java.lang.reflect.Modifier;
import java.util.ArrayList;
import java.util.List;

/**
 * "Refusals change nothing (FINDINGS but count() 8)": every call of the face with numbers at and beyond every
 * edge, in objects that are new, faulty and full. None throws, and what is refused leaves all as it was.
 */
public final class RefusalsTest {
    private static final Due DUE = new Due("refusals");
    private static final int[] EDGES = {0, 1, 2, 5, 7, 8, 23, 24, 60, 61, -1, -2, Due.MOST, Due.LEAST};
    private static final int[] FEW_EDGES = {0, 2, 3, 8, -1, Due.MOST, Due.LEAST};
    private static final int[] FORMS = {0, 1, 2, -1};

    public static void main(String[] args) throws IllegalAccessException {
        for (Method call : DodgemDebate.class.getDeclaredMethods()) {
            if (Modifier.isPublic(call.getModifiers())) {
                for (int kind = 0; kind < 3; kind++) {
                    sweep(call, kind);
                }
            }
        }
        DUE.end();
    }

    private static DodgemDebate told(int kind) {
        if (kind == 0) {
            return new DodgemDebate();
        }
        DodgemDebate d = kind == 1 ? Due.debate("b00e5;b00", "a0l;;")
                : Due.debate("b00e5;m30w3;h53n9;b33e1;m22s4;h41w6;b15n2;b20n8",
                "c0l;e1r;b2l;f3r;g4l;h5r;i6l;j7r;k0r;l3l;w6r;x7r");
        for (int i = 0; i < 8; i++) {
            d.event(i % 2, 3 * i, i);
            d.seen(i, i, d.at(i, i, 0) < 0 ? 0 : d.at(i, i, 0), 3);
        }
        for (int form = 0; form < 3; form++) {
            Due.fillSheet(d, form, form, 1, 2, 3 + form, -4);
        }
        return d;
    }

    /** All that can be asked of an object, but for count() 8; sheets last, since asking for a lost one is a finding. */
    private static List<Long> state(DodgemDebate d) {
        List<Long> all = new ArrayList<>();
        all.add(d.digest());
        for (int what = 0; what < 8; what++) {
            all.add((long) d.count(what));
        }
        for (int s = 0; s < 4; s++) {
            for (int form : FORMS) {
                for (int i = 0; i < 5; i++) {
                    all.add((long) d.get(s, form, i));
                }
            }
        }
        return all;
    }

    private static void sweep(Method call, int kind) throws IllegalAccessException {
        int[] edges = call.getParameterCount() > 3 ? FEW_EDGES : EDGES;
        int n = call.getParameterCount();
        int all = 1;
        for (int i = 0; i < n; i++) {
            all *= edges.length;
        }
        DodgemDebate d = told(kind);
        List<Long> before = state(told(kind));
        int since = 0;
        for (int number = 0; number < all; number++) {
            Object[] numbers = numbersOf(number, n, edges);
            int finding = d.count(8);
            long answer = answer(d, call, numbers);
            boolean refused = isRefused(call, answer);
            boolean found = refused && answer <= -11 && answer >= -15 || call.getName().equals("get") && refused;
            String what = call.getName() + java.util.Arrays.toString(numbers) + " of " + kind;
            if (refused && !found) {
                DUE.is(what + ": count(8)", d.count(8), finding);
            } else if (refused && answer != Due.LEAST) {
                DUE.is(what + ": count(8)", d.count(8), -10 - answer);
            }
            since++;
            if (!refused || since == 40 || number == all - 1) {
                if (refused) {
                    DUE.is(what + ": all is as it was", state(d).equals(before) ? 1 : 0, 1);
                }
                d = told(kind);
                since = 0;
            }
        }
    }

    private static Object[] numbersOf(int number, int n, int[] edges) {
        Object[] numbers = new Object[n];
        for (int i = 0; i < n; i++) {
            numbers[i] = edges[number % edges.length];
            number /= edges.length;
        }
        return numbers;
    }

    private static long answer(DodgemDebate d, Method call, Object[] numbers) throws IllegalAccessException {
        try {
            return ((Number) call.invoke(d, numbers)).longValue();
        } catch (InvocationTargetException e) {
            DUE.is(call.getName() + java.util.Arrays.toString(numbers) + " threw " + e.getCause(), 1, 0);
            return Due.BAD;
        }
    }

    private static boolean isRefused(Method call, long answer) {
        switch (call.getName()) {
            case "digest": return false;
            case "chance": return answer == Due.BAD_LONG;
            case "get": return answer == Due.LEAST;
            default: return answer < Due.NONE;
        }
    }
}
