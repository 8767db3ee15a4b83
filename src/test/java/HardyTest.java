import java.lang.management.ManagementFactory;
import java.lang.reflect.InvocationTargetException;
import java.lang.reflect.Method;
import java.lang.reflect.Modifier;
import java.util.Arrays;
import java.util.Comparator;
import java.util.Random;

/** No call ever throws, whatever its arguments and however often; and calls make next to no objects. */
public final class HardyTest {
    private static final Check CHECK = new Check();
    private static final int[] EDGES = {0, 1, 2, 3, 4, 5, 6, 7, 8, 9, 10, 16, 19, 20, 21, 28, 29, 30, 31, 59, 60, 61,
        95, 96, 99, 100, 101, 104, 255, 256, 9999, 10000, -1, -2, -9, Integer.MAX_VALUE, Integer.MIN_VALUE,
        Integer.MAX_VALUE - 1, Integer.MIN_VALUE + 1, 1 << 16, 1 << 30};
    private static final String TEXT = "efcphaswbhcd;;;;;0123456789oxonmtbs";

    public static void main(String[] args) throws ReflectiveOperationException {
        wild();
        room();
        CHECK.end("HardyTest");
    }

    private static Method[] face() {
        Method[] all = Arrays.stream(AlwaysYesterdays.class.getDeclaredMethods())
                .filter(m -> Modifier.isPublic(m.getModifiers())).toArray(Method[]::new);
        Arrays.sort(all, Comparator.comparing(Method::getName));
        return all;
    }

    private static void wild() throws ReflectiveOperationException {
        CHECK.promise("rule 7");
        Random lot = new Random(5);
        Method[] face = face();
        for (int run = 0; run < 60; run++) {
            AlwaysYesterdays x = run % 2 == 0 ? new AlwaysYesterdays() : Check.of("ee999;ef995;ec991;ea9910;s160;hb;");
            for (int i = 0; i < 1500; i++) {
                Method m = face[lot.nextInt(face.length)];
                Object[] with = new Object[m.getParameterCount()];
                for (int p = 0; p < with.length; p++) {
                    with[p] = lot.nextInt(10) == 0 ? lot.nextInt() : EDGES[lot.nextInt(EDGES.length)];
                }
                if (m.getName().equals("letter") && lot.nextInt(8) > 0) {
                    with[0] = (int) TEXT.charAt(lot.nextInt(TEXT.length()));
                }
                call(x, m, with);
            }
        }
    }

    private static void call(AlwaysYesterdays x, Method m, Object[] with) throws ReflectiveOperationException {
        try {
            m.invoke(x, with);
        } catch (InvocationTargetException thrown) {
            CHECK.that(m.getName() + Arrays.toString(with) + " threw " + thrown.getCause(), false);
        }
    }

    /** 512 of the dearest calls must leave the room of 7.3 million fields nearly empty. */
    private static void room() {
        CHECK.promise("rule 12");
        com.sun.management.ThreadMXBean bean = (com.sun.management.ThreadMXBean) ManagementFactory.getThreadMXBean();
        long id = Thread.currentThread().getId();
        AlwaysYesterdays x = Check.of("ee999;ef995;ec991;ea9910;s160;hb;");
        dear(x);
        long before = bean.getThreadAllocatedBytes(id);
        AlwaysYesterdays y = Check.of("ee999;ef995;ec991;ea9910;s160;hb;");
        for (int i = 0; i < 30; i++) {
            dear(y);
        }
        long bytes = bean.getThreadAllocatedBytes(id) - before;
        CHECK.that("an object and its calls take " + bytes + " bytes", bytes < 40000);
    }

    private static void dear(AlwaysYesterdays x) {
        x.buying(28);
        x.best(28);
        x.out(28);
        x.less(28);
        x.half(28);
        x.pays(28);
        x.close();
        x.mean(0);
        x.share();
        x.lots(20, 7);
        x.fits();
        x.bottles(6);
        x.judge();
        x.row(3);
        x.image();
        x.on();
        x.house();
    }
}
