import java.nio.charset.StandardCharsets;
import java.util.Random;

/**
 * All promises: runs of calls by fixed seeds on EarTown and on the Model; every answer has to be the
 * same. An argument says from which seed on, and a second one how many runs.
 */
public final class ModelTest {
    private static final String[] KEYS = ("person owes story free false gift ruin hears tells day strike or and not ruined "
            + "knows need ear debt credit place").split(" ");
    private static final String STRAY = "; <=>()az09\n.A\u0000\u00ff";
    private final Random random;
    private final EarTown x = new EarTown();
    private final Model m = new Model();
    private final long seed;
    private final StringBuilder told = new StringBuilder();
    private int calls = 0;
    private boolean wrong = false;
    private int persons = 0;
    private int stories = 0;

    private ModelTest(long seed) {
        this.seed = seed;
        this.random = new Random(seed);
    }

    public static void main(String[] args) {
        long from = args.length > 0 ? Long.parseLong(args[0]) : 1;
        int runs = args.length > 1 ? Integer.parseInt(args[1]) : 400;
        int failed = 0;
        for (long seed = from; seed < from + runs; seed++) {
            ModelTest run = new ModelTest(seed);
            run.go();
            if (run.wrong && ++failed <= 3) {
                System.out.println("seed " + seed + ":\n" + run.told);
            }
        }
        Kit.due("runs that differ from the Model", failed, 0);
        Kit.finish();
    }

    private void go() {
        if (random.nextInt(20) > 0) {
            text(townText());
            check("town()", x.town(), m.town());
        }
        while (calls < 420 && !wrong) {
            step();
        }
    }

    private void check(String call, long got, long want) {
        calls++;
        told.append("  ").append(call).append(" -> ").append(got);
        if (got != want) {
            wrong = true;
            told.append(", due is ").append(want);
        }
        told.append('\n');
    }

    private void check(String call, boolean got, boolean want) {
        check(call, got ? 1 : 0, want ? 1 : 0);
    }

    private int to(int n) {
        return random.nextInt(n + 1);
    }

    private int from(int least, int most) {
        return least + random.nextInt(most - least + 1);
    }

    private int p() {
        return random.nextInt(15) == 0 ? from(-2, 9) : random.nextInt(Math.max(1, m.count(0)));
    }

    private int s() {
        return random.nextInt(15) == 0 ? from(-2, 9) : random.nextInt(Math.max(1, m.count(1)));
    }

    private int hours() {
        return random.nextInt(8) == 0 ? from(-1, 26) : from(1, 4);
    }

    private void text(String text) {
        told.append("  text '").append(text.replace("\n", "\\n")).append("'\n");
        byte[] bytes = text.getBytes(StandardCharsets.ISO_8859_1);
        int before = m.count(4);
        for (int i = 0; i < bytes.length; i += 20) {
            int[] n = new int[5];
            for (int j = 0; j < 20; j++) {
                n[j / 4] = n[j / 4] << 8 | (i + j < bytes.length ? bytes[i + j] & 255 : random.nextInt(256));
            }
            check("feed", x.feed(n[0], n[1], n[2], n[3], n[4]), m.feed(n));
        }
        int end = before + bytes.length;
        check("end", x.end(end), m.end(end));
    }

    private String name(int i, boolean story) {
        return (story ? "s" : "p") + "abcdefghij".charAt(i);
    }

    private String somePerson() {
        if (random.nextInt(60) == 0) {
            return random.nextBoolean() ? "zz" : name(random.nextInt(8), true);
        }
        return name(random.nextInt(Math.max(1, persons)), false);
    }

    private String someStory() {
        if (random.nextInt(60) == 0) {
            return random.nextBoolean() ? "zz" : name(0, false);
        }
        return name(random.nextInt(Math.max(1, stories)), true);
    }

    private String number(int least, int most) {
        int n = random.nextInt(120) == 0 ? from(0, 120) : from(least, most);
        return (random.nextInt(30) == 0 && n < 100 ? "0" : "") + n;
    }

    private String blank() {
        int k = random.nextInt(12);
        return k == 0 ? "\n" : k == 1 ? "  " : " ";
    }

    private String townText() {
        StringBuilder t = new StringBuilder();
        persons = random.nextInt(10) == 0 ? from(0, 9) : from(2, 8);
        stories = random.nextInt(10) == 0 ? from(0, 9) : from(0, 4);
        int ears = random.nextInt(3) == 0 ? 3 : 24;
        int needs = random.nextInt(3) == 0 ? 6 : 99;
        for (int i = 0; i < persons; i++) {
            t.append("person").append(blank()).append(name(i, false)).append(blank()).append(number(0, needs)).append(blank());
            t.append(number(0, ears)).append(blank()).append(number(0, 9)).append(random.nextInt(4) == 0 ? " ;" : ";");
        }
        for (int i = 0; i < stories && persons > 0; i++) {
            t.append("story ").append(name(i, true)).append(' ').append(somePerson()).append(' ');
            t.append(number(0, 99)).append(' ').append(number(0, 9)).append(';');
        }
        int notes = random.nextInt(4) == 0 ? from(0, 28) : from(0, 12);
        boolean[] done = new boolean[100];
        for (int i = 0; i < notes && persons > 1; i++) {
            int a = random.nextInt(persons);
            int b = random.nextInt(persons);
            boolean again = a == b || done[a * 10 + b];
            if (again && random.nextInt(40) > 0) {
                continue;
            }
            done[a * 10 + b] = true;
            done[b * 10 + a] = true;
            t.append("owes ").append(name(a, false)).append(' ').append(name(b, false)).append(blank()).append(number(1, 30)).append(';');
        }
        for (int i = 0; i < persons; i++) {
            if (random.nextInt(6) == 0) {
                t.append("free ").append(name(i, false)).append(';');
            }
            if (random.nextInt(6) == 0) {
                t.append("false ").append(name(i, false)).append(';');
            }
        }
        if (random.nextInt(2) == 0) {
            t.append("gift ").append(number(0, 2)).append(';');
        }
        if (random.nextInt(2) == 0) {
            t.append("ruin ").append(number(1, 4)).append(';');
        }
        return marred(t.toString(), 900);
    }

    private String bookText() {
        StringBuilder t = new StringBuilder();
        int lines = random.nextInt(12) == 0 ? from(28, 32) : to(8);
        for (int i = 0; i < lines; i++) {
            switch (random.nextInt(8)) {
                case 0 -> t.append("day ").append(number(1, 30));
                case 1 -> t.append("strike");
                case 2, 3 -> t.append(somePerson()).append(blank()).append("tells ").append(somePerson()).append(' ').append(someStory());
                default -> t.append(somePerson()).append(" hears").append(blank()).append(somePerson()).append(' ').append(number(1, 3));
            }
            t.append(';').append(random.nextInt(6) == 0 ? "\n" : "");
        }
        return marred(t.toString(), 500);
    }

    private void one(StringBuilder t, int depth) {
        switch (random.nextInt(depth > 8 ? 8 : 12)) {
            case 0 -> t.append(random.nextBoolean() ? "ruined" : "free");
            case 1 -> t.append("false");
            case 2 -> t.append("knows ").append(someStory());
            case 3 -> t.append("owes ").append(somePerson());
            case 8, 9 -> {
                t.append("not ");
                one(t, depth + 1);
            }
            case 10, 11 -> {
                t.append("(");
                cond(t, depth + 1);
                t.append(")");
            }
            default -> {
                String[] of = {"need", "ear", "debt", "credit", "place"};
                t.append(of[random.nextInt(5)]).append(blank()).append("<=>".charAt(random.nextInt(3)));
                t.append(random.nextBoolean() ? " " : "").append(number(0, 12));
            }
        }
    }

    private void cond(StringBuilder t, int depth) {
        one(t, depth);
        while (random.nextInt(5) < 2) {
            t.append(random.nextBoolean() ? " and " : " or ");
            one(t, depth);
        }
    }

    private String sentenceText() {
        StringBuilder t = new StringBuilder();
        cond(t, random.nextInt(3));
        if (random.nextInt(12) == 0) {
            t.insert(0, "not ".repeat(from(4, 9)));
        }
        while (random.nextInt(8) == 0) {
            t.append(" or free and ear > 2 or need > 5 and not free");
        }
        return marred(t.toString(), 200);
    }

    /** Now and then a text that is not as told, or one about as long as it may be. */
    private String marred(String text, int limit) {
        StringBuilder t = new StringBuilder(text);
        int kind = random.nextInt(12);
        int at = random.nextInt(t.length() + 1);
        if (kind == 0) {
            t.insert(at, STRAY.charAt(random.nextInt(STRAY.length())));
        } else if (kind == 1 && at < t.length()) {
            t.deleteCharAt(at);
        } else if (kind == 2) {
            t.insert(at, " " + KEYS[random.nextInt(KEYS.length)] + " ");
        } else if (kind == 3) {
            t.setLength(at);
        } else if (kind == 4) {
            int length = Math.min(940, limit + from(-3, 12));
            int blanks = length - t.length();
            if (blanks > 0) {
                t.insert(random.nextInt(3) == 0 ? t.length() : random.nextInt(3) == 0 ? 0 : t.indexOf(" ") + 1, " ".repeat(blanks));
            }
        }
        if (t.length() > 940) {
            t.setLength(940);
        }
        return t.toString();
    }

    private void emptyTape() {
        if (m.count(4) > 0) {
            check("end(0)", x.end(0), m.end(0));
        }
    }

    private void step() {
        switch (random.nextInt(24)) {
            case 0 -> reads();
            case 1 -> {
                if (random.nextInt(8) == 0) {
                    emptyTape();
                    text(townText());
                    check("town()", x.town(), m.town());
                    check("fault()", x.fault(), m.fault());
                }
            }
            case 2 -> {
                emptyTape();
                text(sentenceText());
                check("sentence()", x.sentence(), m.sentence());
                check("fault()", x.fault(), m.fault());
                for (int k = -2; k < 9; k++) {
                    check("said " + k, x.said(k), m.said(k));
                }
            }
            case 3, 4 -> {
                emptyTape();
                text(bookText());
                int lives = random.nextInt(12) == 0 ? from(-1, 2) : to(1);
                check("book(" + lives + ")", x.book(lives), m.book(lives));
                check("fault()", x.fault(), m.fault());
                for (int what = -1; what < 5; what++) {
                    check("booked " + what, x.booked(what), m.booked(what));
                }
            }
            case 5 -> balances();
            case 6 -> tapeCalls();
            case 7, 8, 9, 10 -> reckonings();
            case 11 -> imageCalls();
            default -> acts();
        }
    }

    private void acts() {
        switch (random.nextInt(12)) {
            case 0, 1, 2, 3 -> {
                int a = p();
                int b = p();
                int n = hours();
                check("hear(" + a + ", " + b + ", " + n + ")", x.hear(a, b, n), m.hear(a, b, n));
            }
            case 4, 5 -> {
                int a = p();
                int b = p();
                int s = s();
                check("tell(" + a + ", " + b + ", " + s + ")", x.tell(a, b, s), m.tell(a, b, s));
            }
            case 6 -> {
                int n = random.nextInt(4) == 0 ? from(-1, 32) : from(1, 2);
                check("days(" + n + ")", x.days(n), m.days(n));
            }
            case 7 -> {
                check("ring()", x.ring(), m.ring());
                check("strike()", x.strike(), m.strike());
                check("struck()", x.struck(), m.struck());
            }
            case 8 -> {
                int n = random.nextInt(4) == 0 ? from(-1, 62) : from(1, 5);
                int k = random.nextInt(6) == 0 ? from(-1, 11) : from(1, 9);
                int seed = random.nextInt();
                check("drawn(" + n + ", " + k + ", " + seed + ")", x.drawn(n, k, seed), m.drawn(n, k, seed));
            }
            default -> check("undo()", x.undo(), m.undo());
        }
        for (int what = 0; what < 8; what++) {
            if (random.nextInt(4) == 0) {
                check("now " + what, x.now(what), m.now(what));
            }
        }
    }

    private void reads() {
        for (int p = -1; p < 9; p++) {
            int q = p;
            int what = from(-1, 11);
            check("person " + p + " " + what, Kit.orThrown(() -> x.person(q, what)), Kit.orThrown(() -> m.person(q, what)));
            int b = p();
            check("owes " + p + " " + b, x.owes(p, b), m.owes(p, b));
            int w = from(-1, 4);
            check("story " + p + " " + w, Kit.orThrown(() -> x.story(q, w)), Kit.orThrown(() -> m.story(q, w)));
            check("now " + p, x.now(p), m.now(p));
            check("count " + p, x.count(p), m.count(p));
            check("most " + p, x.most(p), m.most(p));
        }
    }

    private void balances() {
        int n = m.count(0);
        int[] balance = new int[Math.max(2, n)];
        for (int t = to(3); t > 0; t--) {
            int h = from(1, 3);
            balance[random.nextInt(balance.length)] += h;
            balance[random.nextInt(balance.length)] -= h;
        }
        if (random.nextInt(6) == 0) {
            balance[0] += from(-20, 20);
        }
        int length = random.nextInt(10) == 0 ? to(7) : n;
        StringBuilder t = new StringBuilder();
        for (int p = 0; p < length; p++) {
            t.append((char) (100 + (p < balance.length ? balance[p] : 0)));
        }
        emptyTape();
        text(t.toString());
        check("talked()", x.talked(), m.talked());
        for (int i = -1; i < 4; i++) {
            for (int what = 0; what < 3; what++) {
                check("talk " + i + " " + what, x.talk(i, what), m.talk(i, what));
            }
        }
    }

    private void tapeCalls() {
        if (random.nextInt(30) == 0) {
            for (int i = 0; i < 48; i++) {
                check("feed", x.feed(i, 2, 3, 4, 5), m.feed(i, 2, 3, 4, 5));
            }
        }
        int n = random.nextInt(3) == 0 ? from(-2, 950) : from(-1, 30);
        check("end(" + n + ")", x.end(n), m.end(n));
        check("count(4)", x.count(4), m.count(4));
    }

    private void imageCalls() {
        int k = random.nextInt(6) == 0 ? from(-1, 3) : to(1);
        if (random.nextBoolean()) {
            check("image(" + k + ")", x.image(k), m.image(k));
        } else if (random.nextInt(3) == 0) {
            check("restore(" + k + ")", x.restore(k), m.restore(k));
            persons = m.count(0);
            stories = m.count(1);
        }
    }

    private void reckonings() {
        int p = p();
        int n = hours();
        switch (random.nextInt(12)) {
            case 0 -> {
                if (random.nextInt(6) == 0) {
                    check("hour()", x.hour(), m.hour());
                }
                for (int i = -1; i < 9; i++) {
                    check("with " + i, x.with(i), m.with(i));
                }
            }
            case 1 -> {
                int step = random.nextInt(6) == 0 ? from(-1, 11) : from(1, 9);
                check("prices(" + step + ")", x.prices(step), m.prices(step));
                for (int i = -1; i < 9; i++) {
                    check("price " + i, x.price(i), m.price(i));
                    check("wants " + i, x.wants(i), m.wants(i));
                }
            }
            case 2 -> {
                int[] c = {from(0, 13), from(-1, 13), from(-1, 6), from(0, 7), random.nextInt(8) == 0 ? from(-1, 2) : to(1)};
                check("griefs " + java.util.Arrays.toString(c), Kit.orThrown(() -> x.griefs(c[0], c[1], c[2], c[3], c[4])),
                        Kit.orThrown(() -> m.griefs(c[0], c[1], c[2], c[3], c[4])));
            }
            case 3 -> {
                int[] c = {from(1, 12), from(1, 24), from(0, 4), from(1, 6), from(0, 9)};
                if (random.nextInt(5) == 0) {
                    c[random.nextInt(5)] = from(-1, 26);
                }
                check("saved " + java.util.Arrays.toString(c), x.saved(c[0], c[1], c[2], c[3], c[4]), m.saved(c[0], c[1], c[2], c[3], c[4]));
            }
            case 4, 5 -> {
                int set = random.nextInt(10) == 0 ? random.nextInt() : random.nextBoolean() ? to(255) & ~(1 << Math.max(0, p)) : m.crowd(p, n) & to(255);
                check("sermon(" + p + ", " + set + ", " + n + ")", x.sermon(p, set, n), m.sermon(p, set, n));
            }
            case 6 -> check("crowd(" + p + ", " + n + ")", x.crowd(p, n), m.crowd(p, n));
            case 7 -> {
                int s = s();
                check("sold(" + p + ", " + s + ")", x.sold(p, s), m.sold(p, s));
                check("best(" + p + ")", x.best(p), m.best(p));
            }
            case 8 -> {
                if (random.nextInt(4) == 0) {
                    int k = random.nextInt(4) == 0 ? from(-1, 52) : from(1, 5);
                    int seed = random.nextInt();
                    check("odds(" + p + ", " + k + ", " + seed + ")", x.odds(p, k, seed), m.odds(p, k, seed));
                }
            }
            case 9 -> check("next()", x.next(), m.next());
            case 10 -> {
                check("ring()", x.ring(), m.ring());
                for (int i = -1; i < 9; i++) {
                    check("ringAt " + i, x.ringAt(i), m.ringAt(i));
                }
            }
            default -> {
                int b = p();
                check("why(" + p + ", " + b + ", " + n + ")", x.why(p, b, n), m.why(p, b, n));
            }
        }
    }
}
