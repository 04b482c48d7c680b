import java.lang.reflect.Method;
import java.lang.reflect.Modifier;
import java.util.Arrays;
import java.util.List;

/**
 * "Refused, and nothing changes but status()": each call, with numbers at and beyond the bounds, on objects in
 * several states; what can be seen of the object behind it is what can be seen of one that was not called.
 * Questions change nothing either. No object is used for more than 512 calls.
 */
public final class RefusedChangeNothing {
    private static final int LINE = 0, ONEWAY = 1, STRONG = 2, DEAR = 3, SHUT = 4;
    private static final int MIN = Integer.MIN_VALUE, MAX = Integer.MAX_VALUE;
    private static final int STATES = 7;
    private static final List<String> CHANGES = Arrays.asList("place", "line", "widen", "width", "merge", "undo", "read");
    private static final List<String> MAP_CHANGES = Arrays.asList("map", "row", "put", "copy");
    private static final int[] MANY = {MIN, -9, -1, 0, 1, 2, 3, 4, 5, 11, 12, 39, 40, 500, 501, 1000, 1001, MAX};
    private static final int[] SOME = {MIN, -1, 0, 1, 3, 4, 11, 12, 40, 501, MAX};
    private static final int[] FEW = {-1, 0, 1, 2, 5, 1001};
    private static int wrong = 0;

    public static void main(String[] args) throws Exception {
        for (int state = 0; state < STATES; state++) {
            long untouched = seen(built(state));
            for (Method method : CutAtlas.class.getMethods()) {
                if (method.getDeclaringClass() == CutAtlas.class && !Modifier.isStatic(method.getModifiers())) {
                    callAll(state, untouched, method);
                }
            }
        }
        System.out.println(wrong == 0 ? "refused calls change nothing" : wrong + " calls changed what they should not");
        if (wrong != 0) {
            System.exit(1);
        }
    }

    private static CutAtlas built(int state) {
        CutAtlas x = new CutAtlas();
        switch (state) {
            case 1: x.place(); x.map(0, 0, -1); break;
            case 2: full(x, LINE, DEAR, SHUT); break;
            case 3: full(x, ONEWAY, STRONG, LINE, DEAR, SHUT); break;
            case 4: merged(x); break;
            case 5: wrapped(x); break;
            case 6: twoPlaces(x); break;
            default: break;
        }
        return x;
    }

    /** As full as can be, with rows that are right. */
    private static void full(CutAtlas x, int... kinds) {
        for (int i = 0; i < 12; i++) {
            x.place();
        }
        for (int i = 0; i < 40; i++) {
            x.line(kinds[i % kinds.length], i % 12, (i + 1 + i / 12) % 12, i * 25, i);
        }
        maps(x);
    }

    /** With lines that are missing, and a status that is not 0. */
    private static void merged(CutAtlas x) {
        for (int i = 0; i < 6; i++) {
            x.place();
        }
        for (int i = 0; i < 12; i++) {
            x.line(i % 5, i % 6, (i + 1 + i / 6) % 6, 1000 - i, 100 - i);
        }
        x.merge(1, 2);
        x.merge(0, 4);
        maps(x);
        x.put(0, 2, 0, 0, 1);
    }

    /** With more changes than can be undone, some of them undone, and a line of 2000. */
    private static void wrapped(CutAtlas x) {
        for (int i = 0; i < 3; i++) {
            x.place();
        }
        x.line(DEAR, 0, 1, 1000, 100);
        x.line(SHUT, 1, 2, 1000, 0);
        x.widen(0, 1000);
        for (int i = 0; i < 50; i++) {
            x.width(1, i);
        }
        for (int i = 0; i < 7; i++) {
            x.undo();
        }
        x.width(1, 500);
        maps(x);
        x.row(3, 0, 0);
    }

    private static void twoPlaces(CutAtlas x) {
        x.place();
        x.place();
        x.line(SHUT, 0, 1, 5, 7);
        maps(x);
        x.read(0);
    }

    /** Map 0 of ints: two rows that are right, a missing one; map 1 of longs: a short row, an empty one; map 2 without rows. */
    private static void maps(CutAtlas x) {
        x.map(0, 1, 3);
        x.row(0, 0, 5);
        x.put(0, 1, 0, 2, 1);
        x.row(0, 1, 5);
        x.put(0, 1, 1, 0, SHUT);
        x.put(0, 1, 1, 1, 1);
        x.put(0, 1, 1, 3, 9);
        x.map(1, 2, 2);
        x.row(1, 0, 3);
        x.put(1, 2, 0, 1, Long.MIN_VALUE);
        x.row(1, 1, 0);
        x.map(2, 0, 0);
    }

    /** All that can be seen but status(), in one number; at the end all changes are undone. */
    private static long seen(CutAtlas x) {
        long sum = x.trace();
        int lines = x.about(1);
        for (int what = 0; what < 5; what++) {
            sum = sum * 1000003 + x.about(what);
        }
        for (int line = 0; line < lines; line++) {
            for (int what = 0; what < 6; what++) {
                sum = sum * 1000003 + x.told(line, what);
            }
        }
        sum = seenRows(x, 0, 1, 4, sum);
        sum = seenRows(x, 1, 2, 3, sum);
        sum = seenRows(x, 2, 0, 1, sum);
        sum = seenRows(x, 3, 0, 1, sum);
        for (int step = 0; step <= 30; step++) {
            sum = sum * 1000003 + x.undo();
            sum = sum * 1000003 + x.about(0) * 41 + x.about(1);
        }
        return sum;
    }

    private static long seenRows(CutAtlas x, int map, int kind, int rows, long before) {
        long sum = before;
        for (int r = 0; r < rows; r++) {
            for (int i = 0; i < (rows == 1 ? 1 : 5); i++) {
                sum = sum * 1000003 + x.item(map, kind, r, i);
                sum = sum * 1000003 + x.status();
            }
        }
        return sum;
    }

    private static void callAll(int state, long untouched, Method method) throws Exception {
        int many = method.getParameterCount();
        int[] numbers = many > 3 ? FEW : many > 2 ? SOME : MANY;
        int[] at = new int[many];
        boolean more = true;
        while (more && wrong < 20) {
            Object[] given = new Object[many];
            for (int i = 0; i < many; i++) {
                boolean isLong = method.getParameterTypes()[i] == long.class;
                given[i] = isLong ? (Object) (long) numbers[at[i]] : (Object) numbers[at[i]];
            }
            callOnce(state, untouched, method, given);
            int i = 0;
            while (i < many && ++at[i] == numbers.length) {
                at[i++] = 0;
            }
            more = i < many;
        }
    }

    private static void callOnce(int state, long untouched, Method method, Object[] given) throws Exception {
        String name = method.getName();
        CutAtlas x = built(state);
        int statusBefore = x.status();
        int changesBefore = x.about(3);
        long answer = ((Number) method.invoke(x, given)).longValue();
        int status = x.status();
        int changes = x.about(3);
        String call = "state " + state + ": " + name + Arrays.toString(given) + " answered " + answer;
        if (status != statusDue(name, answer, statusBefore, status)) {
            fault(call + " and left status " + status + ", it was " + statusBefore);
        }
        if (mayChange(name, answer)) {
            int due = name.equals("undo") ? changesBefore - 1
                    : CHANGES.contains(name) ? Math.min(30, changesBefore + 1) : changesBefore;
            if (changes != due) {
                fault(call + ", then about(3) answered " + changes + ", due is " + due);
            }
        } else if (seen(x) != untouched) {
            fault(call + " and changed something");
        }
    }

    /** A call that was not refused, and is no question that leaves all as it was. */
    private static boolean mayChange(String name, long answer) {
        if (name.equals("read")) {
            return answer > 0;
        }
        // It adds to THE TRACE.
        if (name.equals("ask")) {
            return answer != CutAtlas.BAD;
        }
        return (CHANGES.contains(name) || MAP_CHANGES.contains(name)) && answer >= 0;
    }

    private static int statusDue(String name, long answer, int before, int status) {
        if (MAP_CHANGES.contains(name)) {
            return answer < 0 ? (int) answer : 0;
        }
        if (name.equals("item")) {
            return answer == 0 ? status : 0;
        }
        if (name.equals("read")) {
            return answer < 0 ? CutAtlas.BAD : status;
        }
        return before;
    }

    private static void fault(String text) {
        wrong++;
        System.out.println(text);
    }
}
