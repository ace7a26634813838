import java.lang.management.ManagementFactory;
import java.lang.management.ThreadMXBean;
import java.lang.reflect.Array;
import java.lang.reflect.Field;
import java.lang.reflect.Modifier;
import java.util.ArrayDeque;
import java.util.Collections;
import java.util.IdentityHashMap;
import java.util.Set;

/** What an object and all that it holds take of a run's room, after every question that makes something. */
public final class RoomTest {
    private static final Due D = new Due("RoomTest");

    public static void main(String[] args) throws IllegalAccessException {
        LastCloud x = new LastCloud();
        long fresh = elements(x);
        D.due("a new object holds " + fresh, fresh < 100000 ? 1 : 0, 1);
        ask(x);
        long asked = elements(x);
        D.due("an asked one holds " + asked, asked < 1300000 ? 1 : 0, 1);
        for (int i = 0; i < 5; i++) {
            ask(x);
        }
        D.due("nothing is added", elements(x), asked);
        manyCalls();
        D.finish();
    }

    /** "An object is used for at most 512 calls": the dearest of them make nothing at all, once each has been asked. */
    private static void manyCalls() {
        LastCloud x = Skies.under(RuleTest.BY_A_CLOUD + "80 up 400 sign 90 10;water 20;");
        x.row(0, 0, 60);
        dearCalls(x, 16);
        ThreadMXBean bean = ManagementFactory.getThreadMXBean();
        if (!(bean instanceof com.sun.management.ThreadMXBean)) {
            return;
        }
        com.sun.management.ThreadMXBean counter = (com.sun.management.ThreadMXBean) bean;
        long thread = Thread.currentThread().getId();
        counter.getThreadAllocatedBytes(thread);
        long before = counter.getThreadAllocatedBytes(thread);
        dearCalls(x, 496);
        long made = counter.getThreadAllocatedBytes(thread) - before;
        D.due("made by 496 calls: " + made + " bytes", made < 4096 ? 1 : 0, 1);
    }

    private static int dearCalls(LastCloud x, int n) {
        int answers = 0;
        for (int i = 0; i < n; i++) {
            switch (i % 16) {
                case 0:
                    answers += x.sight(1, 2) + x.unsee(1);
                    break;
                case 1:
                    answers += x.hawk(1);
                    break;
                case 2:
                    answers += x.known(1);
                    break;
                case 3:
                    answers += x.share(1);
                    break;
                case 4:
                    answers += x.weak(1, 5, 0);
                    break;
                case 5:
                    answers += x.key();
                    break;
                case 6:
                    answers += x.way(1);
                    break;
                case 7:
                    answers += x.fly(1, i);
                    break;
                case 8:
                    answers += x.flights(3, i, 40);
                    break;
                case 9:
                    answers += x.spread(2, i, 40, 4);
                    break;
                case 10:
                    answers += x.judge(0, i);
                    break;
                case 11:
                    answers += x.ends(1, true);
                    break;
                case 12:
                    answers += x.street();
                    break;
                case 13:
                    answers += x.keep(0) + x.back(0);
                    break;
                case 14:
                    answers += x.tour(0, 20, true);
                    break;
                default:
                    answers += x.last(0, 20);
                    break;
            }
        }
        return answers;
    }

    private static void ask(LastCloud x) {
        Skies.tell(x, RuleTest.BY_A_CLOUD + "80 up 400 sign 90 10;water 20;");
        x.sight(1, 2);
        for (int rule = 0; rule < 4; rule++) {
            x.worth(rule, 0, 20, 0, true, true);
            x.ends(rule, true);
            x.fly(rule, 1);
            x.flights(rule, 1, 40);
        }
        x.hawk(1);
        x.weak(1, 5, 0);
        x.street();
        x.way(1);
        x.keep(0);
        x.row(0, 3, 60);
        x.judge(0, 1);
        x.back(0);
    }

    /** The objects that are held, their fields and their elements. */
    private static long elements(Object root) throws IllegalAccessException {
        Set<Object> been = Collections.newSetFromMap(new IdentityHashMap<>());
        ArrayDeque<Object> open = new ArrayDeque<>();
        open.add(root);
        been.add(root);
        long elements = 0;
        while (!open.isEmpty()) {
            Object one = open.remove();
            elements++;
            if (one.getClass().isArray()) {
                int length = Array.getLength(one);
                elements += length;
                for (int i = 0; i < length && !one.getClass().getComponentType().isPrimitive(); i++) {
                    visit(Array.get(one, i), been, open);
                }
                continue;
            }
            for (Field f : one.getClass().getDeclaredFields()) {
                if (!Modifier.isStatic(f.getModifiers())) {
                    elements++;
                    f.setAccessible(true);
                    if (!f.getType().isPrimitive()) {
                        visit(f.get(one), been, open);
                    }
                }
            }
        }
        return elements;
    }

    private static void visit(Object held, Set<Object> been, ArrayDeque<Object> open) {
        if (held != null && been.add(held)) {
            open.add(held);
        }
    }
}
