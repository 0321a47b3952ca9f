import java.lang.reflect.InvocationTargetException;
import java.lang.reflect.Method;
import java.lang.reflect.Modifier;

/**
 * Every call with every odd number in each of its places, in several states: none throws, and one that is refused
 * changes nothing that can be asked for.
 */
public final class WrongNumbersTest {
    private static final Due due = new Due();
    private static final long[] ODD = {Integer.MIN_VALUE, Integer.MIN_VALUE + 1, -1000000, -65, -64, -2, -1, 0, 1, 2, 3, 4,
        5, 6, 7, 8, 9, 10, 12, 15, 16, 24, 27, 37, 63, 64, 65, 255, 256, 400, 999, 1000, Integer.MAX_VALUE - 1,
        Integer.MAX_VALUE};
    private static final long[] FEW = {Integer.MIN_VALUE, -1, 0, 1, 3, 63, 64, Integer.MAX_VALUE};

    public static void main(String[] args) throws IllegalAccessException {
        for (int state = 0; state < 4; state++) {
            for (Method call : BeastFloor.class.getDeclaredMethods()) {
                if (Modifier.isPublic(call.getModifiers())) {
                    everyNumber(call, state);
                }
            }
        }
        due.end();
    }

    private static BeastFloor inState(int state) {
        BeastFloor x = new BeastFloor();
        if (state == 1) {
            Due.tell(x, "row 3 10;row 4 17;patch 0 1;gives 1 0;apart 7;quarry b 3 4;book abab xxxx aabb cdef;");
            x.lay(0, 0, 1, 9);
            x.sheet(0, 0, 64);
            x.sheet(1, 1, 0);
            x.sheet(2, 2, 5);
            x.write(2, 3, 1000);
            x.knot(5);
            x.knot(12);
            x.fill();
        } else if (state == 2) {
            Due.tell(x, "row 1 1;row 1 1;gives 0 1;gives 1 0;");
            for (int i = 0; i < 24; i++) {
                x.knot(i * 41);
            }
            Due.feed(x, "row ".repeat(100));
            for (int cell = 0; cell < 64; cell++) {
                x.put(cell, cell % 6);
            }
        } else if (state == 3) {
            Due.tell(x, "patch;".repeat(12) + "book aaaa aaaa aaaa aaaa;book bbbb bbbb bbbb bbbb;");
            Due.feed(x, "row 1000 ");
        }
        return x;
    }

    private static void everyNumber(Method call, int state) throws IllegalAccessException {
        Class<?>[] kinds = call.getParameterTypes();
        long[] from = kinds.length <= 2 ? ODD : FEW;
        int all = 1;
        for (int i = 0; i < kinds.length; i++) {
            all *= from.length;
        }
        BeastFloor x = inState(state);
        String before = all(x);
        for (int n = 0; n < all; n++) {
            Object[] numbers = new Object[kinds.length];
            StringBuilder said = new StringBuilder(call.getName());
            int rest = n;
            for (int i = 0; i < kinds.length; i++) {
                long v = from[rest % from.length];
                rest /= from.length;
                numbers[i] = kinds[i] == long.class ? (Object) v : (Object) (int) v;
                said.append(' ').append(v);
            }
            long answer = answer(x, call, numbers, said.toString());
            if (answer < 0 && !call.getName().equals("text")) {
                String now = all(x);
                boolean same = now.equals(before) || isAnswer(call.getName(), answer);
                due.holds(said + " answered " + answer + " and changes nothing", same);
            }
            x = inState(state);
        }
    }

    /** Answers below 0 that are no refusals: what a CELL was. */
    private static boolean isAnswer(String call, long answer) {
        return call.equals("put") && answer == -1;
    }

    private static long answer(BeastFloor x, Method call, Object[] numbers, String said) throws IllegalAccessException {
        try {
            return ((Number) call.invoke(x, numbers)).longValue();
        } catch (InvocationTargetException e) {
            due.holds(said + " threw " + e.getCause(), false);
            return 0;
        }
    }

    /** All that can be asked for without a change. */
    private static String all(BeastFloor x) {
        StringBuilder b = new StringBuilder(Due.floor(x));
        for (int i = 0; i < 26; i++) {
            b.append(' ').append(x.told(i)).append(' ').append(x.count(i)).append(' ').append(x.slips(i, 2));
            for (int j = 0; j < 4; j++) {
                b.append(' ').append(x.thing(i, j));
            }
        }
        for (int k = 0; k < 4; k++) {
            for (int i = 0; i < 64; i++) {
                b.append(' ').append(x.pattern(k, 0, i));
            }
        }
        return b.append(' ').append(x.fault()).append(' ').append(x.torn()).toString();
    }
}
