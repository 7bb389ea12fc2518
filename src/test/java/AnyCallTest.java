import java.lang.management.ManagementFactory;
import java.lang.reflect.InvocationTargetException;
import java.lang.reflect.Method;
import java.lang.reflect.Modifier;
import java.util.Random;

/** No call throws, whatever its arguments and the state; and what calls make stays small. */
public final class AnyCallTest {
    private static final Check CHECK = new Check();
    private static final Random RANDOM = new Random(512);
    private static final int[] EDGES = {0, 1, 2, 3, 4, 5, 13, 14, 15, 60, 61, 64, 65, 99, 100, 113, 200, 201, 1000003,
        16383, 16384, -1, -2, Integer.MIN_VALUE, Integer.MAX_VALUE};
    private static final String[] TEXTS = {"", "slates 1;", "slates 3;num 1;add 0 0;turn 1 by 5;times 1 2;",
        "slates 14;" + "num 5;".repeat(14),
        "slates 9;num 5;turn 0 by 1;turn 1 by 2;turn 2 by 3;turn 3 by 4;turn 4 by 5;turn 5 by 6;turn 6 by 7;"
            + "turn 7 by 8;turn 8 by 9;turn 9 by 10;turn 10 by 11;turn 11 by 12;turn 12 by 13;"};

    public static void main(String[] args) throws Exception {
        anyCalls();
        room();
        CHECK.finish();
    }

    private static void anyCalls() throws Exception {
        Method[] all = SlatePlay.class.getDeclaredMethods();
        for (int run = 0; run < 200; run++) {
            SlatePlay x = new SlatePlay();
            Told.tell(x, TEXTS[run % TEXTS.length]);
            for (int i = 0; i < 300; i++) {
                Method m = all[RANDOM.nextInt(all.length)];
                if (Modifier.isPublic(m.getModifiers()) && !(m.getName().equals("school") && i < 250)) {
                    call(x, m);
                }
                if (i % 3 == 0) {
                    x.move(RANDOM.nextInt(14));
                }
            }
        }
    }

    private static void call(SlatePlay x, Method m) throws Exception {
        Class<?>[] types = m.getParameterTypes();
        Object[] with = new Object[types.length];
        for (int i = 0; i < types.length; i++) {
            int number = RANDOM.nextInt(4) == 0 ? RANDOM.nextInt() : EDGES[RANDOM.nextInt(EDGES.length)];
            number = RANDOM.nextInt(3) == 0 ? RANDOM.nextInt(5) : number;
            with[i] = types[i] == boolean.class ? (Object) RANDOM.nextBoolean()
                    : types[i] == long.class ? (Object) (long) number : (Object) number;
        }
        try {
            long answer = ((Number) m.invoke(x, with)).longValue();
            CHECK.due(m.getName() + " answers no less than -8", answer >= -8 ? 1 : 0, 1);
        } catch (InvocationTargetException e) {
            CHECK.due(m.getName() + java.util.Arrays.toString(with) + " threw " + e.getCause(), 0, 1);
        }
    }

    /** A run of 512 of the dearest calls makes no more than one object's own rows, far from the room's end. */
    private static void room() {
        com.sun.management.ThreadMXBean threads =
                (com.sun.management.ThreadMXBean) ManagementFactory.getThreadMXBean();
        long id = Thread.currentThread().getId();
        for (int warm = 0; warm < 2; warm++) {
            long before = threads.getThreadAllocatedBytes(id);
            SlatePlay x = Told.school(TEXTS[4]);
            long made = threads.getThreadAllocatedBytes(id) - before;
            before = threads.getThreadAllocatedBytes(id);
            dearCalls(x);
            long more = threads.getThreadAllocatedBytes(id) - before;
            if (warm == 1) {
                System.out.println("made: " + made + " bytes, by calls: " + more + " bytes");
                CHECK.due("an object's bytes are few", made < 400000 ? 1 : 0, 1);
                CHECK.due("calls make next to nothing", more < 20000 ? 1 : 0, 1);
            }
        }
    }

    private static void dearCalls(SlatePlay x) {
        x.move(0);
        x.row(0, 0, 8);
        for (int i = 0; i < 30; i++) {
            x.must(8192, 9);
            x.series(0, 9);
            x.groups(9, 0);
            x.ways(8192, 9, true);
            x.path(8192, 9, true, 3);
            x.keep(8192, 9);
            x.breaks(8192, 1);
            x.within(8192, 27, true);
            x.far(9, 1);
            x.seen(i, 200);
            x.judge(0);
            x.backwards(0);
            x.culprits();
            x.chain(200, 14);
            x.tree(20, 64);
            x.image(i % 3);
            x.back(i % 3);
        }
    }
}
