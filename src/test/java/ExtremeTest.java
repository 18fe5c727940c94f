import java.lang.reflect.InvocationTargetException;
import java.lang.reflect.Method;

/** Every call with every mix of odd numbers, on families that stand oddly: none throws, and each answers a number that is told. */
final class ExtremeTest {
    private static final int[] ODD = {Integer.MIN_VALUE, -1, 0, 1, 2, 4, 5, 6, 8, 33, 256, 999, 1000, Integer.MAX_VALUE};
    private static final String[] TEXTS = {"", "p3,0,0;", "p0,0,0;p3,99,20;", "p2,9,9;p3,9,9;p3,0,0;p4,1,1;p1,99,20;p0,0,0;g2,0,40,20;g1,5,40,0;t20;",
        "p0,99,20;p0,99,20;g0,0,1,1;g1,0,1,1;g2,0,1,1;g3,0,1,1;g0,1,1,1;g1,1,1,1;g2,1,1,1;g3,1,1,1;v0,1,20;v1,0,20;t1;"};

    public static void main(String[] args) throws IllegalAccessException {
        for (String text : TEXTS) {
            for (int gone = -1; gone < 6; gone++) {
                for (Method m : DutyOnLeft.class.getDeclaredMethods()) {
                    if (m.getModifiers() == java.lang.reflect.Modifier.PUBLIC) {
                        mixes(standing(text, gone), m, new Object[m.getParameterCount()], 0);
                    }
                }
            }
        }
        Check.end("ExtremeTest");
    }

    private static DutyOnLeft standing(String text, int gone) {
        DutyOnLeft x = new DutyOnLeft();
        for (int k = 0; k < text.length(); k++) {
            x.write(text.charAt(k));
        }
        x.lay();
        x.swear(0, 0);
        x.leave(gone);
        return x;
    }

    private static void mixes(DutyOnLeft x, Method m, Object[] with, int at) throws IllegalAccessException {
        if (at == with.length) {
            String call = m.getName() + java.util.Arrays.toString(with);
            try {
                int got = (Integer) m.invoke(x, with);
                Check.due(call + " is " + got, 1, got >= -4 ? 1 : 0);
            } catch (InvocationTargetException e) {
                Check.due(call + " threw " + e.getCause(), 1, 0);
            }
            return;
        }
        if (m.getParameterTypes()[at] == boolean.class) {
            with[at] = true;
            mixes(x, m, with, at + 1);
            return;
        }
        for (int odd : ODD) {
            with[at] = odd;
            mixes(x, m, with, at + 1);
        }
    }
}
