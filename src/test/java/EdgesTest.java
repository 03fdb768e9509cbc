import java.lang.management.ManagementFactory;
import java.lang.reflect.InvocationTargetException;
import java.lang.reflect.Method;
import java.lang.reflect.Modifier;
import java.util.ArrayList;
import java.util.Comparator;
import java.util.List;
import java.util.Random;

/** No call throws, for any arguments in any state; no call but the first makes objects to speak of. */
public final class EdgesTest {
    private static final Checks T = new Checks("EdgesTest");
    private static final int[] ODD = {Integer.MIN_VALUE, Integer.MIN_VALUE + 1, -61, -8, -2, -1, 0, 1, 2, 3, 4, 5, 6, 7, 23, 24, 31, 32, 40, 41, 59, 60, 61,
        500, 800, 999, 1000, 65536, 2000000000, 2000000001, Integer.MAX_VALUE - 1, Integer.MAX_VALUE};
    private static final String TEXT = "city eats 50 carry 1 odds 90;house purse 9999;house purse 50;house purse 20;house purse 0;house purse 0 locked;"
        + "thing at 0 worth 40;thing at 1 worth 30;thing at 2 worth 7;thing at 1 worth 999;thing at 4 worth 1;thing at 0 worth 1;want 0 1 500;want 1 0 3;";

    public static void main(String[] args) throws ReflectiveOperationException {
        List<Method> calls = new ArrayList<>();
        for (Method method : ReceiptLeft.class.getDeclaredMethods()) {
            if (Modifier.isPublic(method.getModifiers())) {
                calls.add(method);
            }
        }
        calls.sort(Comparator.comparing(Method::getName));
        Random random = new Random(5);
        for (int run = 0; run < 400; run++) {
            oddRun(calls, random, run);
        }
        Bounds.Doing[] states = {Bounds::nothing, Bounds::headAlone, Bounds::noThings, Bounds::full, Bounds::withPapers, Bounds::crowded,
            Bounds::spent, Bounds::hows};
        for (Method call : calls) {
            for (Bounds.Doing state : states) {
                allOf(call, Bounds.made(state));
            }
        }
        room();
        T.finish();
    }

    private static void oddRun(List<Method> calls, Random random, int run) throws ReflectiveOperationException {
        ReceiptLeft x = run % 4 == 0 ? new ReceiptLeft() : Checks.told(TEXT);
        for (int i = 0; i < 400; i++) {
            Method call = calls.get(random.nextInt(calls.size()));
            Object[] with = new Object[call.getParameterCount()];
            for (int j = 0; j < with.length; j++) {
                int n = random.nextInt(3) == 0 ? ODD[random.nextInt(ODD.length)] : random.nextInt(5);
                boolean wide = call.getParameterTypes()[j] == long.class;
                with[j] = wide ? (Object) (random.nextBoolean() ? (long) n : random.nextLong()) : (Object) n;
            }
            boolean loses = call.getName().equals("city") || call.getName().equals("anew") || call.getName().equals("back");
            if (loses && random.nextInt(20) != 0) {
                continue;
            }
            try {
                call.invoke(x, with);
            } catch (InvocationTargetException e) {
                T.due(call + " threw " + e.getCause(), 1, 0);
            }
        }
    }

    /** A call with all that is least and greatest, each with each. */
    private static void allOf(Method call, ReceiptLeft x) throws ReflectiveOperationException {
        int[] ends = {Integer.MIN_VALUE, -1, 0, 1, 5, 60, Integer.MAX_VALUE};
        Object[] with = new Object[call.getParameterCount()];
        int ways = (int) Math.pow(ends.length, with.length);
        for (int way = 0; way < ways; way++) {
            int rest = way;
            for (int j = 0; j < with.length; j++) {
                int n = ends[rest % ends.length];
                rest /= ends.length;
                with[j] = call.getParameterTypes()[j] == long.class ? (Object) (n * 4294967297L) : (Object) n;
            }
            try {
                call.invoke(x, with);
            } catch (InvocationTargetException e) {
                T.due(call + " threw " + e.getCause(), 1, 0);
            }
        }
    }

    private static void room() {
        ReceiptLeft x = Checks.told(TEXT);
        for (int i = 0; i < 20; i++) {
            x.steal(i % 4, i % 4, 30 + i % 7);
        }
        dearest(x);
        long before = bytes();
        for (int i = 0; i < 100; i++) {
            dearest(x);
        }
        long made = bytes() - before;
        T.due("the dearest calls make " + made + " bytes", made < 100000 ? 1 : 0, 1);
        before = bytes();
        for (int i = 0; i < 100; i++) {
            new ReceiptLeft();
        }
        made = (bytes() - before) / 100;
        T.due("a new object makes " + made + " bytes", made < 40000 ? 1 : 0, 1);
    }

    private static void dearest(ReceiptLeft x) {
        x.feed(1, 2, 3, 4, 5);
        x.struck();
        x.rings();
        x.needs(0);
        x.fails(60);
        x.luck(1, 20, 40, 0, 0);
        x.deals(5);
        x.rests(3);
        x.row(0, 1, 60);
        x.wrong(0);
        x.image(0);
        x.night();
        x.undo();
        x.back(0);
        x.end(0);
    }

    private static long bytes() {
        com.sun.management.ThreadMXBean bean = (com.sun.management.ThreadMXBean) ManagementFactory.getThreadMXBean();
        return bean.getCurrentThreadAllocatedBytes();
    }
}
