import java.lang.management.ManagementFactory;
import java.lang.reflect.Array;
import java.lang.reflect.Field;
import java.lang.reflect.Modifier;
import java.util.ArrayDeque;
import java.util.Collections;
import java.util.Deque;
import java.util.IdentityHashMap;
import java.util.Set;

/** What one object holds is small, its calls make nothing, and the dearest of them end soon. */
public final class FrugalTest {
    private static int wrong = 0;

    private static void check(boolean good, String what) {
        if (!good) {
            wrong++;
            System.out.println("not so: " + what);
        }
    }

    private static final String LAWS = "sense a floor 0 noise 9 9 9 9 9 9;sense b line 1/1 noise 9 9 9 9 9 9;sense c share 99 noise 9 8 7 6 5 4;"
            + "sense d share 99 noise 9 8 7 6 5 4;sense e share 50 then line 3/1 noise 9 1;sense f power 1/2 then line 20/1 noise 9 1;"
            + "sayer p of a line 10 second 1 tires 90 learns 90;sayer q of c guess;"
            + "plan u up 1 to 200 by 1 times 1;plan v up 201 to 400 by 1 times 1;plan m mixed 1 to 10 by 1 times 20;"
            + "pay y hit 10 miss less 5 false less 8 right 2 there 50";

    private static void fill(LittleMore x) {
        x.run(0, 0);
        x.run(1, 0);
        for (int i = 0; i < 40; i++) for (int n = 0; n < 5; n++) x.trial(0, 0, 5 + i, 6 + i, 0);
        for (int n = 0; n < 40; n++) for (int i = 0; i < 5; i++) x.trial(1, 0, 50 + i, 51 + i, 0);
    }

    private static long dear(LittleMore x) {
        long sum = 0;
        for (int p = 0; p <= 1; p++) {
            sum += x.fits(p) + x.fitAt(p, 0, 1) + x.verdict(p, 0) + x.lets(p, 0, 10, 1);
            for (int sense = 0; sense < 6; sense++) {
                sum += x.lineOf(p, sense, false) + x.lineOf(p, sense, true) + x.secondOf(p, sense, false) + x.secondOf(p, sense, true);
            }
            sum += x.fails(p, 50, 1, 400, 1) + x.steps(p, 60, 1, 400) + x.felt(p, 100) + x.best(0, p, 400);
            sum += x.odds(p, 2, 10, 11, 1, 1, false) + x.odds(p, 4, 10, 5, 1, 1, false) + x.stair(p, 200, 1, 9, 200);
        }
        sum += x.parted(0, 1, 0, 1, 400) + x.parted(2, 3, 0, 1, 400) + x.parted(0, 1, 3, 1, 400) + x.fewest(0, 2, 100, 101);
        for (int n = 1; n <= 40; n++) sum += x.span(n, 4999, 10000, true) + x.span(n, 1, 10000, true);
        return sum;
    }

    private static long[] held(Object root) throws IllegalAccessException {
        Set<Object> seen = Collections.newSetFromMap(new IdentityHashMap<>());
        Deque<Object> open = new ArrayDeque<>();
        open.add(root);
        seen.add(root);
        long parts = 0;
        while (!open.isEmpty()) {
            Object o = open.pop();
            if (o.getClass().isArray()) {
                parts += Array.getLength(o);
                for (int i = 0; i < Array.getLength(o) && !o.getClass().getComponentType().isPrimitive(); i++) {
                    Object part = Array.get(o, i);
                    if (part != null && seen.add(part)) open.add(part);
                }
                continue;
            }
            for (Field f : o.getClass().getDeclaredFields()) {
                if (Modifier.isStatic(f.getModifiers())) continue;
                parts++;
                f.setAccessible(true);
                Object part = f.getType().isPrimitive() ? null : f.get(o);
                if (part != null && seen.add(part)) open.add(part);
            }
        }
        return new long[] {seen.size(), parts};
    }

    private static long made() {
        return ((com.sun.management.ThreadMXBean) ManagementFactory.getThreadMXBean()).getThreadAllocatedBytes(Thread.currentThread().getId());
    }

    public static void main(String[] args) throws Exception {
        LittleMore x = Texts.roomOf(LAWS);
        long[] held = held(x);
        System.out.println(held[0] + " objects and arrays, " + held[1] + " fields and elements");
        check(held[0] < 1000 && held[1] < 60000, "an object is small");
        made();
        long before = made();
        long started = System.nanoTime();
        fill(x);
        check(x.size(4) == 800, "the book has 800");
        long sum = dear(x);
        for (int i = 0; i < 5; i++) {
            x.clear();
            for (int n = 0; n < 5; n++) x.run(2, 1);
        }
        long took = (System.nanoTime() - started) / 1000000;
        long bytes = made() - before;
        System.out.println("the dearest calls took " + took + " ms and made " + bytes + " bytes (" + sum + ")");
        check(bytes < 20000, "calls make nothing");
        check(took < 20000, "calls end soon");
        long[] later = held(x);
        check(later[0] <= held[0] && later[1] <= held[1], "nothing grows");
        if (wrong != 0) System.exit(1);
    }
}
