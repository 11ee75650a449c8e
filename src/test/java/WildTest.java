import java.lang.reflect.InvocationTargetException;
import java.lang.reflect.Method;
import java.lang.reflect.Modifier;
import java.util.Arrays;
import java.util.Comparator;
import java.util.NoSuchElementException;
import java.util.Random;

/**
 * LANGUAGE.md, rules 6 and 7, and promises 6, 8, 25: whatever numbers come, in whatever state, no call
 * throws but person(), story() and griefs(), and these nothing but NoSuchElementException.
 */
public final class WildTest {
    private static final int[] WILD = {0, 1, 2, 3, 7, 8, 9, 24, 25, 30, 31, 32, 33, 60, 61, 63, 64, 128, 255, 256, 500, 512, 940, 941,
        9999, 65536, -1, -2, -8, -1000, 1 << 30, 1 << 31, Integer.MAX_VALUE, Integer.MAX_VALUE - 1, Integer.MIN_VALUE + 1};
    private static final String[] TEXTS = {
        "person a 9 8 1;person b 30 4 2;person c 10 0 2;person d 0 6 1;owes a b 3;owes b c 2;owes c a 4;story s c 20 5;free c;false d;ruin 1;",
        "person a 9 9 9;person b 9 9 9;person c 9 9 9;person d 9 9 9;person e 9 9 9;person f 9 9 9;person g 9 9 9;person h 9 9 9;"
                + "story i a 9 1;story j b 9 1;story k c 9 1;story l d 9 1;story m e 9 1;story n f 9 1;story o g 9 1;story p h 9 1;"
                + "owes a b 9;owes b c 9;owes c d 9;owes d e 9;owes e f 9;owes f g 9;owes g h 9;owes h a 9;gift 9;",
        "person a 5 5 5;", "", "gift 9;ruin 99;", "a hears b 2;c tells a s;day 30;strike;a hears a 1;", "strike;day 1;", "day 31;",
        "not (need > 4 and owes b) or knows s and (((((((free)))))))", "free or free or free or free or free or free and not ruined",
        "dddd", "fbdd", "dddddddd", "d", "\u0000\u00ff\u0080\u007f", "person", "person a", "owes", "not", "((((((((((", "knows s", "day"};
    private final Random random;
    private final EarTown x = new EarTown();

    private WildTest(long seed) {
        random = new Random(seed);
    }

    public static void main(String[] args) throws IllegalAccessException {
        Method[] calls = Arrays.stream(EarTown.class.getDeclaredMethods())
                .filter(m -> Modifier.isPublic(m.getModifiers()))
                .sorted(Comparator.comparing(Method::getName)).toArray(Method[]::new);
        Kit.due("calls of the face", calls.length, 41);
        int runs = args.length > 0 ? Integer.parseInt(args[0]) : 400;
        for (int seed = 0; seed < runs; seed++) {
            new WildTest(seed).go(calls);
        }
        Kit.finish();
    }

    private void go(Method[] calls) throws IllegalAccessException {
        for (int asked = 0; asked < 440;) {
            if (random.nextInt(8) == 0) {
                asked += tape(TEXTS[random.nextInt(TEXTS.length)]);
            }
            Method m = calls[random.nextInt(calls.length)];
            Object[] numbers = new Object[m.getParameterCount()];
            for (int i = 0; i < numbers.length; i++) {
                numbers[i] = random.nextInt(3) > 0 ? random.nextInt(9) : random.nextInt(20) > 0 ? WILD[random.nextInt(WILD.length)] : random.nextInt();
            }
            try {
                m.invoke(x, numbers);
                asked++;
            } catch (InvocationTargetException e) {
                boolean may = m.getExceptionTypes().length > 0 && e.getCause().getClass() == NoSuchElementException.class;
                Kit.due(m.getName() + Arrays.toString(numbers) + " throws " + e.getCause() + ": that", may, true);
                asked++;
            }
        }
    }

    /** A text, now and then with bytes of any kind in it, now and then of a full tape: how many calls it took. */
    private int tape(String text) {
        StringBuilder all = new StringBuilder(text);
        for (int i = random.nextInt(4) == 0 ? random.nextInt(4) : 0; i > 0; i--) {
            all.insert(random.nextInt(all.length() + 1), (char) random.nextInt(random.nextBoolean() ? 128 : 256));
        }
        if (random.nextInt(12) == 0) {
            all.insert(random.nextInt(all.length() + 1), " ".repeat(Math.min(400, 940 - all.length())));
        }
        x.end(0);
        Kit.feed(x, all.toString());
        return all.length() / 20 + 4;
    }
}
