import java.lang.management.ManagementFactory;
import java.lang.reflect.InvocationTargetException;
import java.lang.reflect.Method;
import java.lang.reflect.Modifier;
import java.util.Random;

/** Any numbers in any state: no call throws, what is refused changes nothing, and no call makes objects. */
public final class AnyCallTest {
    private static final int[] NUMBERS = {Integer.MIN_VALUE, Integer.MIN_VALUE + 1, -70000, -5, -2, -1, 0, 1, 2, 3, 4, 5, 6, 7, 8, 9,
        10, 11, 20, 40, 41, 59, 60, 61, 99, 100, 101, 126, 127, 200, 9999, 10000, 65536, Integer.MAX_VALUE - 1, Integer.MAX_VALUE};
    private static final String[] TEXTS = {
        "g9,1;g8,3;h0;h0;h30;s0,0,40;s1,0,40;s0,1,40;e0,0,1;e1,0,1;e2,1,2;k0,0,1;k0,1,9;k1,1,2;d0,0;d20,10;",
        "g1,0;h60;",
        "g1,3;g1,3;g1,3;g1,3;g1,3;h0;h15;h30;h45;h60;s0,0,40;s1,1,40;s2,2,40;s3,3,40;s4,4,40;e4,0,1;e3,1,1;e2,2,20;",
        "g1,0;h0;e0,0,1;e0,0,1;e0,0,1;e0,0,1;e0,0,1;e0,0,1;e0,0,1;e0,0,1;",
    };

    private static int wrong = 0;

    private static String seen(LeftAtFive x) {
        StringBuilder all = new StringBuilder();
        for (int what = 0; what < 10; what++) {
            all.append(x.count(what)).append(' ');
        }
        for (int h = 0; h < x.count(1); h++) {
            for (int g = 0; g < x.count(0); g++) {
                all.append(x.house(h, g, 0)).append(' ');
            }
        }
        for (int i = 0; i < x.count(2); i++) {
            all.append(x.eater(i, 0)).append(' ').append(x.eater(i, 1)).append(' ');
        }
        for (int k = 0; k < x.count(6); k++) {
            for (int what = 0; what < 4; what++) {
                all.append(x.way(k, what)).append(' ');
            }
        }
        return all.toString();
    }

    private static boolean changes(String name) {
        return "write wipe lay pass give toss undo keep back".contains(name);
    }

    private static void call(LeftAtFive x, Method m, Random random) throws IllegalAccessException {
        Object[] a = new Object[m.getParameterCount()];
        for (int i = 0; i < a.length; i++) {
            a[i] = NUMBERS[random.nextInt(NUMBERS.length)];
        }
        String before = seen(x);
        String told = m.getName() + java.util.Arrays.toString(a);
        try {
            long answer = ((Number) m.invoke(x, a)).longValue();
            if ((answer < 0 || !changes(m.getName())) && !seen(x).equals(before)) {
                wrong++;
                System.out.println(told + " answered " + answer + " and changed something");
            }
            if (answer < -4) {
                wrong++;
                System.out.println(told + " answered " + answer);
            }
        } catch (InvocationTargetException e) {
            wrong++;
            System.out.println(told + " threw " + e.getCause());
        }
    }

    private static void anyCalls() throws IllegalAccessException {
        Random random = new Random(5);
        for (int run = 0; run < 400; run++) {
            LeftAtFive x = new LeftAtFive();
            if (run % 5 != 0) {
                lay(x, TEXTS[run % 5 - 1]);
            }
            for (int n = 0; n < 200; n++) {
                for (Method m : LeftAtFive.class.getDeclaredMethods()) {
                    if (Modifier.isPublic(m.getModifiers()) && random.nextInt(25) == 0) {
                        call(x, m, random);
                    }
                }
            }
        }
    }

    private static void lay(LeftAtFive x, String text) {
        x.wipe();
        for (int i = 0; i < text.length(); i++) {
            x.write(text.charAt(i));
        }
        if (x.lay() < 1) {
            wrong++;
            System.out.println("not laid: " + text);
        }
    }

    private static void manyCalls(LeftAtFive x) {
        x.gift(0);
        x.carried(0, 60);
        x.round(30, 99, 0);
        x.bake(1, 2, 1);
        x.buy(50, 30, 5, 1, 1);
        x.soup(-1);
        x.gave(10, 1);
        x.pea(99, 9);
        x.evening(77, 0);
        x.first(0);
        x.taken(-1);
        x.keep();
        x.give(0, 1, 0, 1);
        x.toss(0, 0, 1);
        x.pass(2);
        x.undo();
        x.back();
        x.fault();
        x.lay();
    }

    private static long bytes() {
        return ((com.sun.management.ThreadMXBean) ManagementFactory.getThreadMXBean()).getCurrentThreadAllocatedBytes();
    }

    private static void space() {
        LeftAtFive x = new LeftAtFive();
        lay(x, TEXTS[0]);
        manyCalls(x);
        bytes();
        long before = bytes();
        for (int i = 0; i < 27; i++) {
            manyCalls(x);
        }
        long calls = bytes() - before;
        before = bytes();
        new LeftAtFive();
        long made = bytes() - before;
        if (calls > 2000 || made > 40000) {
            wrong++;
            System.out.println("some 512 calls make " + calls + " bytes, a new object " + made);
        }
    }

    public static void main(String[] args) throws Exception {
        anyCalls();
        space();
        System.out.println(wrong == 0 ? "any call is answered" : wrong + " faults");
        if (wrong != 0) {
            System.exit(1);
        }
    }
}
