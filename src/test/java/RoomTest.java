import java.lang.management.ManagementFactory;
import java.lang.reflect.Array;
import java.lang.reflect.Field;
import java.lang.reflect.Modifier;
import java.util.ArrayDeque;
import java.util.Collections;
import java.util.Deque;
import java.util.IdentityHashMap;
import java.util.Set;

/** What an object takes of the one room, and that no call takes more; and that no call throws. */
public final class RoomTest {
    private static final int MOST_OBJECTS = 200;
    private static final int MOST_ELEMENTS = 10000;
    private static int wrong = 0;

    private static void must(boolean holds, String rule) {
        if (!holds) {
            wrong++;
            System.out.println("not so: " + rule);
        }
    }

    private static void sizes() {
        Set<Object> seen = Collections.newSetFromMap(new IdentityHashMap<>());
        Deque<Object> open = new ArrayDeque<>();
        open.add(new RegisterDesk());
        long elements = 0;
        while (!open.isEmpty()) {
            Object one = open.pop();
            if (one == null || !seen.add(one)) {
                continue;
            }
            elements += one.getClass().isArray() ? Array.getLength(one) : 0;
            if (one instanceof Object[] row) {
                for (Object inside : row) {
                    if (inside != null) {
                        open.add(inside);
                    }
                }
            }
            for (Field field : one.getClass().getDeclaredFields()) {
                if (!Modifier.isStatic(field.getModifiers())) {
                    elements++;
                    addValue(open, one, field);
                }
            }
        }
        System.out.println(seen.size() + " objects and arrays, " + elements + " fields and elements");
        must(seen.size() <= MOST_OBJECTS, "at most " + MOST_OBJECTS + " objects and arrays");
        must(elements <= MOST_ELEMENTS, "at most " + MOST_ELEMENTS + " fields and elements");
    }

    private static void addValue(Deque<Object> open, Object one, Field field) {
        if (field.getType().isPrimitive()) {
            return;
        }
        try {
            field.setAccessible(true);
            Object value = field.get(one);
            if (value != null) {
                open.add(value);
            }
        } catch (IllegalAccessException refused) {
            must(false, "field " + field + " can be read");
        }
    }

    private static int number(int seed) {
        int[] some = {0, 1, 2, 3, 4, 5, 6, 9, 15, 16, -1, -2, 63, 64, 90, 500, 2000, Integer.MIN_VALUE, Integer.MAX_VALUE};
        return some[Math.floorMod(seed, some.length)];
    }

    private static int call(RegisterDesk x, int which, int a, int b) {
        return switch (Math.floorMod(which, 21)) {
            case 0 -> x.colours(a);
            case 1 -> x.way(a);
            case 2 -> x.say(a);
            case 3 -> x.wipe();
            case 4 -> x.fault();
            case 5 -> x.load();
            case 6 -> x.instruction(a, b);
            case 7 -> x.live(a);
            case 8 -> x.edges(a);
            case 9 -> x.weight(a, b);
            case 10 -> x.step(a);
            case 11 -> x.spilled(a);
            case 12 -> x.rounds(a);
            case 13 -> x.colour(a);
            case 14 -> x.code(a, b);
            case 15 -> x.run(a);
            case 16 -> x.out(a);
            case 17 -> x.spent(a);
            case 18 -> x.image(a);
            case 19 -> x.restore(a);
            default -> x.told(a);
        };
    }

    /** Any calls in any order; a program is said now and then, so that there is something to work on. */
    private static int wander(RegisterDesk x, int seed, String text) {
        int at = 0;
        int sum = 0;
        int state = seed;
        for (int i = 0; i < 500; i++) {
            state = state * 1103515245 + 12345;
            int which = state >>> 8;
            int a = number(state >>> 13);
            int b = number(state >>> 20);
            if (at < text.length()) {
                sum += x.say(text.charAt(at));
                at++;
            } else if (at == text.length()) {
                sum += x.load();
                at++;
            } else {
                sum = 31 * sum + call(x, which, a, b);
            }
        }
        return sum;
    }

    private static void noMoreRoom() {
        com.sun.management.ThreadMXBean threads = (com.sun.management.ThreadMXBean) ManagementFactory.getThreadMXBean();
        long me = Thread.currentThread().getId();
        String text = "#a1#b2#c3#d4#e5+fab+gcd+hfe+igh.i.a.c.e+jab.j";
        wander(new RegisterDesk(), 1, text);
        threads.getThreadAllocatedBytes(me);
        RegisterDesk x = new RegisterDesk();
        for (int i = 0; i < text.length(); i++) {
            x.say(text.charAt(i));
        }
        long before = threads.getThreadAllocatedBytes(me);
        int sum = x.load();
        for (int k = 2; k <= 4; k++) {
            for (int way = 0; way <= 2; way++) {
                sum += x.colours(k) + x.way(way) + x.step(0) + x.rounds(0) + x.code(0, 0) + x.spent(0) + x.run(0) + x.live(0);
                sum += x.image(0) + x.restore(0) + x.weight(4, 1) + x.edges(4) + x.spilled(0) + x.colour(4) + x.out(0) + x.told(4);
            }
        }
        long taken = threads.getThreadAllocatedBytes(me) - before;
        must(taken < 2000, "calls take no room (" + taken + " bytes, sum " + sum + ")");
    }

    public static void main(String[] args) {
        sizes();
        noMoreRoom();
        String[] texts = {"", "#a1.a.A.B", "@1^a1#a1^a1", "+baa+caa+aba+ccA+aac.A", "=bk.k.e.h.a.B+fgd=ah+cii=fa", "#B2.f.a#c3.e.f.B.g.i"};
        for (int seed = 0; seed < 3000; seed++) {
            String text = texts[seed % texts.length];
            int once = wander(new RegisterDesk(), seed, text);
            must(once == wander(new RegisterDesk(), seed, text), "the same calls give the same answers (seed " + seed + ")");
        }
        System.out.println(wrong == 0 ? "the room is kept" : wrong + " rules are broken");
        if (wrong != 0) {
            System.exit(1);
        }
    }
}
