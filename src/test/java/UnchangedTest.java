import java.lang.reflect.InvocationTargetException;
import java.lang.reflect.Method;
import java.util.ArrayList;
import java.util.Comparator;
import java.util.List;
import java.util.Random;

/**
 * A call that throws changes nothing; what is thrown is thrown by the class itself, one of what
 * its method names; and no call makes more than a handful of objects.
 */
public final class UnchangedTest {
    private static final int[] NUMBERS = {-2147483648, -4, -2, -1, 0, 0, 0, 1, 1, 2, 3, 5, 7, 13, 60, 2001, 2147483647};

    private static ChipFlow house(int kind) {
        ChipFlow x = new ChipFlow();
        Check.library(x, Check.NAND);
        Check.library(x, Check.LIBRARY);
        Check.design(x, Check.PAIR);
        Check.design(x, Check.COUNTER);
        x.map(1, 1);
        x.map(0, 0);
        if (kind > 0) {
            x.place(0, 12);
            x.place(1, 4);
            x.never(1, 3);
            x.play(1, 1);
        }
        if (kind > 1) {
            x.route(0, 3);
            x.tests(0);
            x.route(1, 0);
            x.draw(1);
        }
        Check.feed(x, "module");
        return x;
    }

    private static Object[] numbers(Method m, Random r) {
        Object[] all = new Object[m.getParameterCount()];
        for (int k = 0; k < all.length; k++) {
            boolean flag = m.getParameterTypes()[k] == boolean.class;
            all[k] = flag ? (Object) r.nextBoolean() : (Object) NUMBERS[r.nextInt(NUMBERS.length)];
        }
        return all;
    }

    private static boolean isNamed(Method m, Throwable thrown) {
        for (Class<?> named : m.getExceptionTypes()) {
            if (thrown.getClass() == named) {
                return true;
            }
        }
        return false;
    }

    private static void wrongCalls(List<Method> face) throws IllegalAccessException {
        Random r = new Random(7);
        for (int kind = 0; kind < 3; kind++) {
            ChipFlow x = house(kind);
            String before = Picture.of(x);
            for (int turn = 0; turn < 60; turn++) {
                for (Method m : face) {
                    Object[] given = numbers(m, r);
                    String call = m.getName() + java.util.Arrays.toString(given);
                    try {
                        m.invoke(x, given);
                        x = turn % 20 == 19 ? house(kind) : x;
                        before = Picture.of(x);
                    } catch (InvocationTargetException e) {
                        Check.same(call + " throws what it names", isNamed(m, e.getCause()), true);
                        Check.same(call + " changes nothing", Picture.of(x), before);
                    }
                }
            }
        }
    }

    private static void fewObjects() {
        com.sun.management.ThreadMXBean memory =
                (com.sun.management.ThreadMXBean) java.lang.management.ManagementFactory.getThreadMXBean();
        ChipFlow x = house(2);
        x.end(0);
        long before = memory.getThreadAllocatedBytes(Thread.currentThread().getId());
        for (int k = 0; k < 50; k++) {
            x.place(0, 12);
            x.improve(0, 4);
            x.route(0, 12);
            x.draw(0);
            x.check(0);
            x.found(0, 0);
            x.tests(0);
            x.suspect(0, 0);
            x.path(0, 3, 0);
            x.wave(0, 1, 30, 5, 9);
            x.proves(0, 1);
            x.equal(1, 1);
            x.drop(2, 1);
            x.map(0, 0);
        }
        long made = memory.getThreadAllocatedBytes(Thread.currentThread().getId()) - before;
        Check.same("bytes made by 700 calls: " + made, made < 20000, true);
    }

    public static void main(String[] args) throws IllegalAccessException {
        List<Method> face = new ArrayList<>();
        for (Method m : ChipFlow.class.getMethods()) {
            if (m.getDeclaringClass() == ChipFlow.class) {
                face.add(m);
            }
        }
        face.sort(Comparator.comparing(Method::getName));
        Check.same("methods of the face", face.size(), 54);
        wrongCalls(face);
        fewObjects();
        Check.finish("UnchangedTest");
    }
}
