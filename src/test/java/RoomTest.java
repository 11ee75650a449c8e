import java.lang.management.ManagementFactory;
import java.lang.reflect.Array;
import java.lang.reflect.Field;
import java.lang.reflect.Modifier;
import java.util.ArrayDeque;
import java.util.Deque;
import java.util.IdentityHashMap;
import java.util.Map;

/** All calls of a run live in one room: an object is small when it is made, and its calls make nothing. */
public final class RoomTest {
    private static final String TOWN = "person a 9 8 1;person b 3 4 2;person c 10 0 2;person d 0 6 1;person e 5 5 5;person f 6 6 6;"
            + "owes a b 3;owes b c 2;owes c a 4;owes e f 9;owes f d 2;owes d e 1;story s c 20 5;story t a 9 1;free c;false d;gift 1;ruin 2;";
    private static final int ROUNDS = 200;
    private static int sum = 0;

    public static void main(String[] args) throws IllegalAccessException {
        int[] room = roomOf(new EarTown());
        System.out.println("a new object: " + room[0] + " objects and arrays, " + room[1] + " fields and elements");
        Kit.due("few objects", room[0] < 250, true);
        Kit.due("few fields and elements", room[1] < 5000, true);
        EarTown x = new EarTown();
        int[][] texts = {numbers(TOWN), numbers("a hears b 2;c tells a s;day 3;strike;d hears a 1;a hears a 1;"),
            numbers("not (need > 4 and owes b) or knows s"), numbers("fbdddd")};
        com.sun.management.ThreadMXBean bean = (com.sun.management.ThreadMXBean) ManagementFactory.getThreadMXBean();
        long thread = Thread.currentThread().getId();
        calls(x, texts);
        bean.getThreadAllocatedBytes(thread);
        long before = bean.getThreadAllocatedBytes(thread);
        for (int i = 0; i < ROUNDS; i++) {
            calls(x, texts);
        }
        long made = bean.getThreadAllocatedBytes(thread) - before;
        System.out.println(made + " bytes made by " + ROUNDS + " rounds of all calls (" + sum + ")");
        Kit.due("calls make nothing", made < 100 * ROUNDS, true);
        Kit.finish();
    }

    private static int[] roomOf(Object root) throws IllegalAccessException {
        Map<Object, Boolean> seen = new IdentityHashMap<>();
        Deque<Object> open = new ArrayDeque<>();
        open.add(root);
        seen.put(root, true);
        int parts = 0;
        while (!open.isEmpty()) {
            Object o = open.pop();
            if (o.getClass().isArray()) {
                int length = Array.getLength(o);
                parts += length;
                for (int i = 0; i < length && !o.getClass().getComponentType().isPrimitive(); i++) {
                    meet(Array.get(o, i), seen, open);
                }
                continue;
            }
            for (Field f : o.getClass().getDeclaredFields()) {
                if (!Modifier.isStatic(f.getModifiers())) {
                    parts++;
                    f.setAccessible(true);
                    if (!f.getType().isPrimitive()) {
                        meet(f.get(o), seen, open);
                    }
                }
            }
        }
        return new int[] {seen.size(), parts};
    }

    private static void meet(Object o, Map<Object, Boolean> seen, Deque<Object> open) {
        if (o != null && seen.put(o, true) == null) {
            open.push(o);
        }
    }

    private static int[] numbers(String text) {
        int[] all = new int[(text.length() + 19) / 20 * 5 + 1];
        for (int i = 0; i < text.length(); i++) {
            all[i / 4] |= text.charAt(i) << 24 - i % 4 * 8;
        }
        all[all.length - 1] = text.length();
        return all;
    }

    private static void put(EarTown x, int[] text) {
        for (int i = 0; i + 5 < text.length; i += 5) {
            x.feed(text[i], text[i + 1], text[i + 2], text[i + 3], text[i + 4]);
        }
        x.end(text[text.length - 1]);
    }

    private static void calls(EarTown x, int[][] texts) {
        put(x, texts[0]);
        sum += x.town();
        sum += x.hear(0, 1, 2) + x.tell(2, 0, 0) + x.ring() + x.ringAt(0) + x.strike() + x.struck() + x.next();
        put(x, texts[1]);
        sum += x.book(1) + x.booked(2) + x.fault();
        put(x, texts[2]);
        sum += x.sentence() + x.said(-1) + x.said(0);
        put(x, texts[3]);
        sum += x.talked() + x.talk(0, 0) + x.hour() + x.with(0) + x.prices(3) + x.price(0) + x.wants(0);
        sum += (int) x.griefs(12, 5, 1, 6, 0) + x.saved(12, 3, 1, 6, 8) + x.sermon(1, 9, 1) + x.crowd(0, 1) + x.sold(0, 0) + x.best(0);
        sum += x.drawn(20, 9, sum) + x.odds(0, 20, sum) + x.most(1) + x.days(3) + x.undo() + x.why(0, 1, 1) + x.now(2) + x.owes(0, 1);
        sum += x.person(0, 9) + x.story(0, 1) + x.count(0) + (x.image(0) ? 1 : 0) + (x.restore(0) ? 1 : 0);
    }
}
