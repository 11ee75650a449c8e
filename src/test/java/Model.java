import java.math.BigInteger;
import java.util.ArrayDeque;
import java.util.ArrayList;
import java.util.Arrays;
import java.util.Comparator;
import java.util.Deque;
import java.util.HashMap;
import java.util.HashSet;
import java.util.List;
import java.util.Map;
import java.util.NoSuchElementException;
import java.util.Set;

/**
 * The document once more, written as plainly as it can be and slowly (all ways are tried, all that
 * is so is copied), so that EarTown's answers can be held against it.
 */
final class Model {
    private static final Set<String> KEYS = new HashSet<>(Arrays.asList(("person owes story free false gift ruin hears tells day "
            + "strike or and not ruined knows need ear debt credit place").split(" ")));

    static final class Fault extends Exception {
        private static final long serialVersionUID = 1L;
        final int kind;
        final int place;

        Fault(int kind, int place) {
            this.kind = kind;
            this.place = place;
        }
    }

    record Person(String name, int ear, int grows) {
    }

    record Story(String name, int owner, int worth, int falls) {
    }

    interface Cond {
        boolean holds(State s, int p);
    }

    /** A TOWN and all that is so; copied whole. */
    static final class State {
        List<Person> persons = new ArrayList<>();
        List<Story> stories = new ArrayList<>();
        Set<Integer> free = new HashSet<>();
        Set<Integer> fake = new HashSet<>();
        int gift = 0;
        int ruin = 10;
        Map<List<Integer>, Integer> notes = new HashMap<>();
        int[] need = new int[8];
        int[] left = new int[8];
        int[] heard = new int[8];
        int[] beenHeard = new int[8];
        boolean[] ruined = new boolean[8];
        int[] times = new int[8];
        Set<List<Integer>> knows = new HashSet<>();
        int day;
        int counterfeit;
        int struckOut;
        int hearings;

        State copy() {
            State s = new State();
            s.persons = new ArrayList<>(persons);
            s.stories = new ArrayList<>(stories);
            s.free = new HashSet<>(free);
            s.fake = new HashSet<>(fake);
            s.gift = gift;
            s.ruin = ruin;
            s.notes = new HashMap<>(notes);
            s.need = need.clone();
            s.left = left.clone();
            s.heard = heard.clone();
            s.beenHeard = beenHeard.clone();
            s.ruined = ruined.clone();
            s.times = times.clone();
            s.knows = new HashSet<>(knows);
            s.day = day;
            s.counterfeit = counterfeit;
            s.struckOut = struckOut;
            s.hearings = hearings;
            return s;
        }

        int owes(int a, int b) {
            return notes.getOrDefault(List.of(a, b), 0);
        }

        int debt(int p) {
            return notes.entrySet().stream().filter(e -> e.getKey().get(0) == p).mapToInt(Map.Entry::getValue).sum();
        }

        int credit(int p) {
            return notes.entrySet().stream().filter(e -> e.getKey().get(1) == p).mapToInt(Map.Entry::getValue).sum();
        }

        void comeToOwe(int a, int b, int n) {
            for (int i = 0; i < n; i++) {
                if (owes(b, a) > 0) {
                    notes.put(List.of(b, a), owes(b, a) - 1);
                } else {
                    notes.put(List.of(a, b), owes(a, b) + 1);
                }
            }
        }

        int why(int a, int b, int n) {
            if (a == b) {
                return 1;
            } else if (n > left[a]) {
                return 2;
            } else if (n > need[b]) {
                return 3;
            } else if (ruined[b] && !free.contains(b)) {
                return 4;
            }
            return 0;
        }

        int hear(int a, int b, int n) {
            int why = why(a, b, n);
            if (why != 0) {
                return why;
            }
            left[a] -= n;
            heard[a] += n;
            beenHeard[b] += n;
            hearings++;
            if (fake.contains(a)) {
                counterfeit += n;
            } else {
                need[b] -= n;
            }
            if (!free.contains(b) && n > gift) {
                comeToOwe(b, a, n - gift);
            }
            return 0;
        }

        int worth(int s) {
            int worth = stories.get(s).worth();
            for (int i = 0; i < times[s]; i++) {
                worth = Math.max(0, worth - stories.get(s).falls());
            }
            return worth;
        }

        int tell(int a, int b, int s) {
            if (a == b) {
                return -3;
            } else if (!knows.contains(List.of(a, s))) {
                return -4;
            } else if (knows.contains(List.of(b, s))) {
                return -5;
            }
            int worth = worth(s);
            times[s]++;
            knows.add(List.of(b, s));
            comeToOwe(b, a, worth);
            return worth;
        }

        void goDay() {
            for (int p = 0; p < persons.size(); p++) {
                if (debt(p) > ruin * persons.get(p).ear()) {
                    ruined[p] = true;
                }
            }
            for (int p = 0; p < persons.size(); p++) {
                left[p] = persons.get(p).ear();
                need[p] = Math.min(999, need[p] + persons.get(p).grows());
            }
            day++;
        }

        private void rings(List<Integer> row, List<List<Integer>> found) {
            int last = row.get(row.size() - 1);
            if (row.size() >= 2 && owes(last, row.get(0)) > 0) {
                found.add(new ArrayList<>(row));
            }
            for (int q = 0; q < persons.size(); q++) {
                if (q > row.get(0) && !row.contains(q) && owes(last, q) > 0) {
                    row.add(q);
                    rings(row, found);
                    row.remove(row.size() - 1);
                }
            }
        }

        List<Integer> ring() {
            List<List<Integer>> found = new ArrayList<>();
            for (int p = 0; p < persons.size(); p++) {
                rings(new ArrayList<>(List.of(p)), found);
            }
            Comparator<List<Integer>> order = Comparator.<List<Integer>>comparingInt(List::size)
                    .thenComparing((a, b) -> Arrays.compare(array(a), array(b)));
            return found.stream().min(order).orElse(new ArrayList<>());
        }

        int strike() {
            int rings = 0;
            List<Integer> ring = ring();
            while (!ring.isEmpty()) {
                int n = ring.size();
                int least = Integer.MAX_VALUE;
                for (int i = 0; i < n; i++) {
                    least = Math.min(least, owes(ring.get(i), ring.get((i + 1) % n)));
                }
                for (int i = 0; i < n; i++) {
                    notes.merge(List.of(ring.get(i), ring.get((i + 1) % n)), -least, Integer::sum);
                    struckOut += least;
                }
                rings++;
                ring = ring();
            }
            return rings;
        }

        int draws(int n, int m, int seed) {
            int[] x = {seed};
            int done = 0;
            for (int d = 0; d < n; d++) {
                for (int t = 0; t < m; t++) {
                    int a = draw(x, persons.size());
                    int b = draw(x, persons.size());
                    int h = draw(x, 3) + 1;
                    if (hear(a, b, h) == 0) {
                        done++;
                    }
                }
                goDay();
            }
            return done;
        }

        private static int draw(int[] x, int n) {
            x[0] = BigInteger.valueOf(x[0]).multiply(BigInteger.valueOf(1103515245)).add(BigInteger.valueOf(12345)).intValue();
            return (x[0] >>> 8) % n;
        }
    }

    static int[] array(List<Integer> list) {
        return list.stream().mapToInt(i -> i).toArray();
    }

    record Token(String text, int place, boolean end) {
        boolean isWord() {
            return text.matches("[a-z]{1,7}");
        }

        boolean isNumber() {
            return text.matches("[0-9]{1,3}");
        }

        boolean isName() {
            return isWord() && !KEYS.contains(text);
        }
    }

    /** All TOKENS that begin ahead of the most bytes, and one for the end. */
    private static List<Token> tokens(String text, int most) {
        List<Token> tokens = new ArrayList<>();
        int i = 0;
        while (i < text.length() && i < most) {
            if (text.charAt(i) == ' ' || text.charAt(i) == '\n') {
                i++;
                continue;
            }
            int j = i;
            while (j < text.length() && text.substring(j, j + 1).matches("[a-z0-9]")) {
                j++;
            }
            j = Math.max(j, i + 1);
            tokens.add(new Token(text.substring(i, j), i, false));
            i = j;
        }
        if (text.length() > most) {
            tokens.add(new Token("too long", most, false));
        } else {
            tokens.add(new Token("", text.length(), true));
        }
        return tokens;
    }

    private List<Token> tokens = new ArrayList<>();
    private int at;
    private int ones;

    private Token peek() {
        return tokens.get(at);
    }

    private static Fault fault(int kind, Token t) {
        return new Fault(kind, t.place());
    }

    private Token word(String... texts) throws Fault {
        Token t = tokens.get(at++);
        if (!Arrays.asList(texts).contains(t.text())) {
            throw fault(1, t);
        }
        return t;
    }

    private int number(int least, int most) throws Fault {
        Token t = tokens.get(at++);
        if (!t.isNumber()) {
            throw fault(1, t);
        }
        int n = Integer.parseInt(t.text());
        if (n < least || n > most) {
            throw fault(2, t);
        }
        return n;
    }

    private static int personOf(State s, String name) {
        for (int p = 0; p < s.persons.size(); p++) {
            if (s.persons.get(p).name().equals(name)) {
                return p;
            }
        }
        return -1;
    }

    private static int storyOf(State s, String name) {
        for (int i = 0; i < s.stories.size(); i++) {
            if (s.stories.get(i).name().equals(name)) {
                return i;
            }
        }
        return -1;
    }

    private int personName(State s) throws Fault {
        Token t = tokens.get(at++);
        if (!t.isName()) {
            throw fault(1, t);
        }
        if (personOf(s, t.text()) < 0) {
            throw fault(3, t);
        }
        return personOf(s, t.text());
    }

    private int storyName(State s) throws Fault {
        Token t = tokens.get(at++);
        if (!t.isName()) {
            throw fault(1, t);
        }
        if (storyOf(s, t.text()) < 0) {
            throw fault(3, t);
        }
        return storyOf(s, t.text());
    }

    private String newName(State s) throws Fault {
        Token t = tokens.get(at++);
        if (!t.isName()) {
            throw fault(1, t);
        }
        if (personOf(s, t.text()) >= 0 || storyOf(s, t.text()) >= 0) {
            throw fault(3, t);
        }
        return t.text();
    }

    private int readTown(State s) throws Fault {
        Set<String> once = new HashSet<>();
        int lines = 0;
        while (!peek().end()) {
            Token t = word("person", "owes", "story", "free", "false", "gift", "ruin");
            switch (t.text()) {
                case "person" -> {
                    int p = s.persons.size();
                    if (p == 8) {
                        throw fault(4, t);
                    }
                    String name = newName(s);
                    s.need[p] = number(0, 99);
                    s.left[p] = number(0, 24);
                    s.persons.add(new Person(name, s.left[p], number(0, 9)));
                }
                case "owes" -> {
                    int a = personName(s);
                    Token second = peek();
                    int b = personName(s);
                    if (a == b || s.owes(a, b) + s.owes(b, a) > 0) {
                        throw fault(3, second);
                    }
                    s.notes.put(List.of(a, b), number(1, 99));
                }
                case "story" -> {
                    if (s.stories.size() == 8) {
                        throw fault(4, t);
                    }
                    String name = newName(s);
                    int owner = personName(s);
                    int worth = number(0, 99);
                    s.knows.add(List.of(owner, s.stories.size()));
                    s.stories.add(new Story(name, owner, worth, number(0, 9)));
                }
                case "free", "false" -> {
                    Token who = peek();
                    int p = personName(s);
                    if (!(t.text().equals("free") ? s.free : s.fake).add(p)) {
                        throw fault(3, who);
                    }
                }
                default -> {
                    if (!once.add(t.text())) {
                        throw fault(3, t);
                    }
                    if (t.text().equals("gift")) {
                        s.gift = number(0, 9);
                    } else {
                        s.ruin = number(1, 99);
                    }
                }
            }
            word(";");
            lines++;
        }
        return lines;
    }

    private List<Object[]> readBook(State s) throws Fault {
        List<Object[]> lines = new ArrayList<>();
        while (!peek().end()) {
            Token t = peek();
            boolean key = t.text().equals("day") || t.text().equals("strike");
            int a = -1;
            if (key) {
                at++;
            } else {
                a = personName(s);
            }
            if (lines.size() == 30) {
                throw fault(4, t);
            }
            if (t.text().equals("day")) {
                lines.add(new Object[] {"day", number(1, 30)});
            } else if (t.text().equals("strike")) {
                lines.add(new Object[] {"strike"});
            } else {
                String act = word("hears", "tells").text();
                int b = personName(s);
                lines.add(new Object[] {act, a, b, act.equals("hears") ? number(1, 24) : storyName(s)});
            }
            word(";");
        }
        return lines;
    }

    private Cond readCond(State s, int depth) throws Fault {
        Cond left = readAll(s, depth);
        while (peek().text().equals("or")) {
            at++;
            Cond a = left;
            Cond b = readAll(s, depth);
            left = (state, p) -> a.holds(state, p) || b.holds(state, p);
        }
        return left;
    }

    private Cond readAll(State s, int depth) throws Fault {
        Cond left = readOne(s, depth);
        while (peek().text().equals("and")) {
            at++;
            Cond a = left;
            Cond b = readOne(s, depth);
            left = (state, p) -> a.holds(state, p) && b.holds(state, p);
        }
        return left;
    }

    private Cond readOne(State s, int depth) throws Fault {
        Token t = word("not", "(", "ruined", "free", "false", "knows", "owes", "need", "ear", "debt", "credit", "place");
        if (ones == 20 || depth == 8) {
            throw fault(4, t);
        }
        ones++;
        switch (t.text()) {
            case "not": {
                Cond c = readOne(s, depth + 1);
                return (state, p) -> !c.holds(state, p);
            }
            case "(": {
                Cond c = readCond(s, depth + 1);
                word(")");
                return c;
            }
            case "ruined": return (state, p) -> state.ruined[p];
            case "free": return (state, p) -> state.free.contains(p);
            case "false": return (state, p) -> state.fake.contains(p);
            case "knows": {
                int story = storyName(s);
                return (state, p) -> state.knows.contains(List.of(p, story));
            }
            case "owes": {
                int q = personName(s);
                return (state, p) -> state.owes(p, q) > 0;
            }
            default: {
                String sign = word("<", "=", ">").text();
                int n = number(0, 999);
                return (state, p) -> {
                    int m = switch (t.text()) {
                        case "need" -> state.need[p];
                        case "ear" -> state.left[p];
                        case "debt" -> state.debt(p);
                        case "credit" -> state.credit(p);
                        default -> p;
                    };
                    return sign.equals("<") ? m < n : sign.equals("=") ? m == n : m > n;
                };
            }
        }
    }

    private StringBuilder tape = new StringBuilder();
    private State state = new State();
    private Cond cond = null;
    private int faultKind = 0;
    private final Deque<State> past = new ArrayDeque<>();
    private final State[] images = new State[2];
    private final Cond[] imageConds = new Cond[2];
    private int lastStruck = -1;
    private List<Integer> lastRing = new ArrayList<>();
    private int[] lastWith = new int[0];
    private int[] lastPrice = new int[0];
    private int[] lastWants = new int[0];
    private List<int[]> lastSet = new ArrayList<>();
    private int[] lastBooked = null;

    private void act() {
        past.push(state.copy());
        if (past.size() > 8) {
            past.removeLast();
        }
    }

    private String takeTape(int most) {
        String text = tape.toString();
        tape = new StringBuilder();
        tokens = tokens(text, most);
        at = 0;
        ones = 0;
        faultKind = 0;
        return text;
    }

    int feed(int... numbers) {
        if (tape.length() + 20 > 940) {
            return -1;
        }
        for (int n : numbers) {
            tape.append((char) (n >>> 24)).append((char) (n >> 16 & 255)).append((char) (n >> 8 & 255)).append((char) (n & 255));
        }
        return tape.length();
    }

    boolean end(int n) {
        if (n < 0 || n > tape.length()) {
            return false;
        }
        tape.setLength(n);
        return true;
    }

    int town() {
        takeTape(900);
        State s = new State();
        try {
            int lines = readTown(s);
            state = s;
            cond = null;
            past.clear();
            return lines;
        } catch (Fault f) {
            faultKind = f.kind;
            return -1 - f.place;
        }
    }

    int fault() {
        return faultKind;
    }

    private boolean isPerson(int p) {
        return p >= 0 && p < state.persons.size();
    }

    private boolean isStory(int s) {
        return s >= 0 && s < state.stories.size();
    }

    int person(int p, int what) {
        if (!isPerson(p) || what < 0 || what > 10) {
            throw new NoSuchElementException();
        }
        int[] all = {state.need[p], state.left[p], state.persons.get(p).ear(), state.persons.get(p).grows(),
            state.free.contains(p) ? 1 : 0, state.fake.contains(p) ? 1 : 0, state.ruined[p] ? 1 : 0,
            state.heard[p], state.beenHeard[p], state.debt(p), state.credit(p)};
        return all[what];
    }

    int owes(int a, int b) {
        return isPerson(a) && isPerson(b) ? state.owes(a, b) : -1;
    }

    int story(int s, int what) {
        if (!isStory(s) || what < 0 || what > 3) {
            throw new NoSuchElementException();
        }
        int bits = 0;
        for (int p = 0; p < 8; p++) {
            bits += state.knows.contains(List.of(p, s)) ? 1 << p : 0;
        }
        return new int[] {state.stories.get(s).owner(), state.worth(s), state.times[s], bits}[what];
    }

    int now(int what) {
        if (what < 0 || what > 7) {
            return -1;
        }
        int ruined = 0;
        for (boolean r : state.ruined) {
            ruined += r ? 1 : 0;
        }
        int owed = state.notes.values().stream().mapToInt(i -> i).sum();
        return new int[] {state.day, Arrays.stream(state.heard).sum(), owed, state.counterfeit, ruined,
            Arrays.stream(state.need).sum(), state.struckOut, state.hearings}[what];
    }

    int why(int a, int b, int n) {
        return isPerson(a) && isPerson(b) && n >= 1 && n <= 24 ? state.why(a, b, n) : -1;
    }

    int hear(int a, int b, int n) {
        int why = why(a, b, n);
        if (why == 0) {
            act();
            state.hear(a, b, n);
        }
        return why;
    }

    int tell(int a, int b, int s) {
        if (!isPerson(a) || !isPerson(b) || !isStory(s)) {
            return -1;
        }
        State before = state.copy();
        int answer = state.tell(a, b, s);
        if (answer >= 0) {
            State after = state;
            state = before;
            act();
            state = after;
        }
        return answer;
    }

    int days(int n) {
        if (n < 1 || n > 30 || state.day + n > 9999) {
            return -1;
        }
        act();
        for (int i = 0; i < n; i++) {
            state.goDay();
        }
        return state.day;
    }

    int strike() {
        State before = state.copy();
        int rings = state.strike();
        lastStruck = state.struckOut - before.struckOut;
        if (rings > 0) {
            State after = state;
            state = before;
            act();
            state = after;
        }
        return rings;
    }

    int struck() {
        return lastStruck;
    }

    int undo() {
        if (past.isEmpty()) {
            return -1;
        }
        state = past.pop();
        return past.size();
    }

    int ring() {
        lastRing = state.ring();
        return lastRing.size();
    }

    int ringAt(int i) {
        return i >= 0 && i < lastRing.size() ? lastRing.get(i) : -1;
    }

    int next() {
        State s = state.copy();
        for (int d = 0; d < 3; d++) {
            s.goDay();
            for (int p = 0; p < s.persons.size(); p++) {
                if (s.ruined[p] && !state.ruined[p]) {
                    return p;
                }
            }
        }
        return -1;
    }

    private void hours(int p, int[] with, List<int[]> all) {
        if (p == with.length) {
            all.add(with.clone());
            return;
        }
        hours(p + 1, with, all);
        for (int q = 0; q < with.length; q++) {
            if (with[p] == 0 && with[q] == 0 && q != p && state.why(q, p, 1) == 0) {
                with[p] = 100 + q;
                with[q] = 200 + p;
                hours(p + 1, with, all);
                with[p] = 0;
                with[q] = 0;
            }
        }
    }

    private int met(int[] with) {
        int sum = 0;
        for (int p = 0; p < with.length; p++) {
            sum += with[p] / 100 == 1 ? state.need[p] : 0;
        }
        return sum;
    }

    private static int[] orderOf(int[] with) {
        return Arrays.stream(with).map(w -> w == 0 ? 0 : 1 + w % 100 * 10 + w / 100).toArray();
    }

    int hour() {
        List<int[]> all = new ArrayList<>();
        hours(0, new int[state.persons.size()], all);
        Comparator<int[]> order = Comparator.<int[]>comparingInt(w -> -met(w))
                .thenComparing((a, b) -> Arrays.compare(orderOf(a), orderOf(b)));
        lastWith = all.stream().min(order).orElseThrow();
        return met(lastWith);
    }

    int with(int p) {
        return p >= 0 && p < lastWith.length ? lastWith[p] : -1;
    }

    int prices(int step) {
        int n = state.persons.size();
        if (step < 1 || step > 9 || n == 0) {
            return -1;
        }
        lastPrice = new int[n];
        for (int round = 1;; round++) {
            lastWants = new int[n];
            int[] hours = new int[n];
            for (int p = 0; p < n; p++) {
                int least = Integer.MAX_VALUE;
                int who = -1;
                for (int q = n - 1; q >= 0; q--) {
                    if (q != p && state.persons.get(q).ear() > 0 && lastPrice[q] <= least) {
                        least = lastPrice[q];
                        who = q;
                    }
                }
                lastWants[p] = state.need[p] > 0 ? who : -1;
                if (lastWants[p] >= 0) {
                    hours[who] += state.need[p];
                }
            }
            int more = 0;
            for (int q = 0; q < n; q++) {
                if (hours[q] > state.persons.get(q).ear()) {
                    lastPrice[q] += step;
                    more++;
                }
            }
            if (more == 0 || round == 500) {
                return round;
            }
        }
    }

    int price(int p) {
        return p >= 0 && p < lastPrice.length ? lastPrice[p] : -1;
    }

    int wants(int p) {
        return p >= 0 && p < lastWants.length ? lastWants[p] : -1;
    }

    /** The ways of j GRIEFS, DAY by DAY. */
    private static BigInteger ways(int n, int j, int k, int m) {
        if (j < 0) {
            return BigInteger.ZERO;
        }
        if (n == 0) {
            return j == 0 ? BigInteger.ONE : BigInteger.ZERO;
        }
        return ways(n - 1, j - 1, k, m).multiply(BigInteger.valueOf(k)).add(ways(n - 1, j, k, m).multiply(BigInteger.valueOf(m - k)));
    }

    long griefs(int n, int j, int k, int m, int what) {
        if (n < 1 || n > 12 || j < 0 || j > 12 || m < 1 || m > 6 || k < 0 || k > m || what < 0 || what > 1) {
            throw new NoSuchElementException();
        }
        BigInteger above = ways(n, j, k, m);
        BigInteger below = BigInteger.valueOf(m).pow(n);
        return (what == 0 ? above : below).divide(above.gcd(below)).longValueExact();
    }

    int saved(int n, int g, int k, int m, int t) {
        if (n < 1 || n > 12 || g < 1 || g > 24 || m < 1 || m > 6 || k < 0 || k > m || t < 0 || t > 9) {
            return -1;
        }
        for (int h = 0;; h++) {
            BigInteger met = BigInteger.ZERO;
            for (int j = 0; j <= n && j * g <= h; j++) {
                met = met.add(ways(n, j, k, m));
            }
            if (met.multiply(BigInteger.valueOf(9)).compareTo(BigInteger.valueOf(m).pow(n).multiply(BigInteger.valueOf(t))) >= 0) {
                return h;
            }
        }
    }

    int sermon(int p, int set, int n) {
        if (!isPerson(p) || set == 0 || n < 1 || n > 24 || (set >> p & 1) == 1) {
            return -1001;
        }
        State s = state.copy();
        for (int q = 0; q < 32; q++) {
            if ((set >>> q & 1) == 1) {
                if (!isPerson(q) || state.why(q, p, n) != 0) {
                    return -1001;
                }
                if (!s.free.contains(p)) {
                    s.comeToOwe(p, q, Math.max(0, n - s.gift));
                }
            }
        }
        return s.debt(p) - state.debt(p);
    }

    int crowd(int p, int n) {
        if (!isPerson(p) || n < 1 || n > 24) {
            return -1;
        }
        int set = 0;
        for (int q = 0; q < state.persons.size(); q++) {
            set += state.why(q, p, n) == 0 ? 1 << q : 0;
        }
        return set;
    }

    int sold(int p, int s) {
        if (!isPerson(p) || !isStory(s) || !state.knows.contains(List.of(p, s))) {
            return -1;
        }
        State trial = state.copy();
        int hours = 0;
        for (int q = 0; q < state.persons.size(); q++) {
            hours += Math.max(0, trial.tell(p, q, s));
        }
        return hours;
    }

    int best(int p) {
        int best = -1;
        for (int s = state.stories.size() - 1; s >= 0; s--) {
            if (sold(p, s) >= 0 && (best < 0 || sold(p, s) >= sold(p, best))) {
                best = s;
            }
        }
        return best;
    }

    int talked() {
        String text = tape.toString();
        tape = new StringBuilder();
        int n = state.persons.size();
        if (n == 0 || n > 6 || text.length() != n) {
            return -1;
        }
        List<int[]> talks = new ArrayList<>();
        for (int a = 0; a < n; a++) {
            for (int b = 0; b < n; b++) {
                for (int h = 1; h <= 3 && a != b; h++) {
                    talks.add(new int[] {a, b, h});
                }
            }
        }
        int found = 0;
        for (int size = 0; size <= 3; size++) {
            found += sets(text, talks, 0, size, new ArrayList<>(), found);
        }
        return found;
    }

    private int sets(String text, List<int[]> talks, int from, int more, List<int[]> set, int already) {
        if (more == 0) {
            int[] balance = new int[text.length()];
            for (int[] t : set) {
                balance[t[0]] += t[2];
                balance[t[1]] -= t[2];
            }
            for (int p = 0; p < balance.length; p++) {
                if (text.charAt(p) - 100 != balance[p]) {
                    return 0;
                }
            }
            if (already == 0) {
                lastSet = new ArrayList<>(set);
            }
            return 1;
        }
        int found = 0;
        for (int i = from; i < talks.size(); i++) {
            int[] t = talks.get(i);
            if (set.stream().noneMatch(u -> u[0] + u[1] == t[0] + t[1] && u[0] * u[1] == t[0] * t[1])) {
                set.add(t);
                found += sets(text, talks, i + 1, more - 1, set, already + found);
                set.remove(set.size() - 1);
            }
        }
        return found;
    }

    int talk(int i, int what) {
        return i >= 0 && i < lastSet.size() && what >= 0 && what < 3 ? lastSet.get(i)[what] : -1;
    }

    int drawn(int n, int m, int seed) {
        if (n < 1 || n > 60 || m < 1 || m > 9 || state.persons.isEmpty() || state.day + n > 9999) {
            return -1;
        }
        act();
        return state.draws(n, m, seed);
    }

    int odds(int p, int n, int seed) {
        if (!isPerson(p) || n < 1 || n > 50 || state.day + 30 > 9999) {
            return -1;
        }
        int ruined = 0;
        for (int i = 0; i < n; i++) {
            State s = state.copy();
            s.draws(30, 4, seed + i);
            ruined += s.ruined[p] ? 1 : 0;
        }
        return ruined;
    }

    int most(int what) {
        int best = -1;
        for (int p = state.persons.size() - 1; p >= 0 && what >= 0 && what < 4; p--) {
            int[] of = {10, 9, 0, 1};
            if (best < 0 || person(p, of[what]) >= person(best, of[what])) {
                best = p;
            }
        }
        return best;
    }

    int book(int lives) {
        if (lives != 0 && lives != 1) {
            return -1000;
        }
        takeTape(500);
        List<Object[]> lines;
        try {
            lines = readBook(state);
        } catch (Fault f) {
            faultKind = f.kind;
            return -2 - f.place;
        }
        State s = state.copy();
        lastBooked = new int[] {0, 0, 0, 0};
        int wrong = -1;
        for (Object[] line : lines) {
            int why = live(s, line);
            if (why != 0) {
                lastBooked[0] = why;
                wrong = lastBooked[1];
                break;
            }
            lastBooked[1]++;
        }
        lastBooked[2] = Arrays.stream(s.heard).sum() - Arrays.stream(state.heard).sum();
        if (lives == 1 && lastBooked[1] > 0) {
            act();
            state = s;
        }
        return wrong;
    }

    private int live(State s, Object[] line) {
        switch ((String) line[0]) {
            case "day":
                if (s.day + (Integer) line[1] > 9999) {
                    return 20;
                }
                for (int i = 0; i < (Integer) line[1]; i++) {
                    s.goDay();
                }
                return 0;
            case "strike":
                lastBooked[3] += s.strike();
                return 0;
            case "hears":
                return s.hear((Integer) line[1], (Integer) line[2], (Integer) line[3]);
            default:
                int answer = s.tell((Integer) line[1], (Integer) line[2], (Integer) line[3]);
                return answer >= 0 ? 0 : 10 + -2 - answer;
        }
    }

    int booked(int what) {
        return lastBooked != null && what >= 0 && what < 4 ? lastBooked[what] : -1;
    }

    int sentence() {
        takeTape(200);
        try {
            Cond c = readCond(state, 0);
            if (!peek().end()) {
                throw fault(1, peek());
            }
            cond = c;
            return ones;
        } catch (Fault f) {
            faultKind = f.kind;
            return -1 - f.place;
        }
    }

    int said(int k) {
        if (cond == null) {
            return -1;
        }
        List<Integer> whom = new ArrayList<>();
        for (int p = 0; p < state.persons.size(); p++) {
            if (cond.holds(state, p)) {
                whom.add(p);
            }
        }
        if (k == -1) {
            return whom.size();
        }
        return k >= 0 && k < whom.size() ? whom.get(k) : -1;
    }

    boolean image(int k) {
        if (k != 0 && k != 1) {
            return false;
        }
        images[k] = state.copy();
        imageConds[k] = cond;
        return true;
    }

    boolean restore(int k) {
        if (k != 0 && k != 1 || images[k] == null) {
            return false;
        }
        state = images[k].copy();
        cond = imageConds[k];
        past.clear();
        return true;
    }

    int count(int what) {
        return what < 0 || what > 4 ? -1 : new int[] {state.persons.size(), state.stories.size(), state.gift,
            state.ruin, tape.length()}[what];
    }
}
