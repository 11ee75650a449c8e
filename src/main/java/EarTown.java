import java.util.NoSuchElementException;

/**
 * A town where an hour of being heard is owed by an hour of hearing. The words in capitals in the
 * comments are those of the document.
 */
public final class EarTown {
    public static final int NONE = -1;

    private static final int TAPE_BYTES = 940;
    private static final int FED_BYTES = 20;
    private static final int TOWN_BYTES = 900;
    private static final int BOOK_BYTES = 500;
    private static final int SENTENCE_BYTES = 200;

    /** PERSONS of a TOWN at most, and STORIES. */
    private static final int MOST = 8;
    private static final int BOOK_LINES = 30;
    private static final int ONES = 20;
    private static final int WITHIN = 8;
    private static final int ACTS_KEPT = 8;
    private static final int IMAGES = 2;

    private static final int LONGEST_TALK = 24;
    private static final int LAST_DAY = 9999;
    private static final int MOST_DAYS = 30;
    private static final int MOST_NEED = 999;
    private static final int RUIN_UNTOLD = 10;
    private static final int SHORTEST_RING = 3;
    private static final int MOST_ROUNDS = 500;
    private static final int MOST_GRIEFS = 12;
    private static final int NINTHS = 9;
    private static final int BALANCES = 6;
    private static final int BALANCE_ZERO = 100;
    private static final int SET_TALKS = 3;
    private static final int SET_HOURS = 3;
    private static final int ODDS_DAYS = 30;
    private static final int ODDS_TALKS = 4;

    private static final int CANT_COME = 1;
    private static final int BAD_NUMBER = 2;
    private static final int BAD_NAME = 3;
    private static final int TOO_MANY = 4;

    private static final int OTHER_LIVES = -1000;
    private static final int NO_SERMON = NONE - 1000;
    private static final int WRONG_TELL = 10;
    private static final int WRONG_DAY = 20;

    /** Kinds of TOKENS; each sign is a kind of its own, by its byte, which is above these. */
    private static final int END = 0;
    private static final int NO_TOKEN = 1;
    private static final int WORD = 2;
    private static final int NUMBER = 3;

    /** The words that are no NAMES, a blank behind each; their numbers below are their places here. */
    private static final String KEYS = "person owes story free false gift ruin hears tells day strike or and not ruined knows need ear debt credit place ";
    private static final int KEY_PERSON = 0;
    private static final int KEY_OWES = 1;
    private static final int KEY_STORY = 2;
    private static final int KEY_FREE = 3;
    private static final int KEY_FALSE = 4;
    private static final int KEY_GIFT = 5;
    private static final int KEY_RUIN = 6;
    private static final int KEY_HEARS = 7;
    private static final int KEY_TELLS = 8;
    private static final int KEY_DAY = 9;
    private static final int KEY_STRIKE = 10;
    private static final int KEY_OR = 11;
    private static final int KEY_AND = 12;
    private static final int KEY_NOT = 13;
    private static final int KEY_RUINED = 14;
    private static final int KEY_KNOWS = 15;
    private static final int KEY_NEED = 16;
    private static final int KEY_EAR = 17;
    private static final int KEY_DEBT = 18;
    private static final int KEY_CREDIT = 19;
    private static final int KEY_PLACE = 20;

    private final byte[] tape = new byte[TAPE_BYTES];
    private final Reader reader = new Reader();
    private final TownReader townReader = new TownReader();
    private final Place here;
    /** What a text tells, till it is known to have no FAULT. */
    private final Place draft = new Place(new Charter());
    private final Place[] images = new Place[IMAGES];
    private final boolean[] kept = new boolean[IMAGES];
    /** A life that is tried out, so that what is so stays as it is. */
    private final Life trial;
    private final Past past;
    private final Book latestBook = new Book();
    private final Hours hours = new Hours();
    private final Market market = new Market();
    private final TalkSets talkSets = new TalkSets();
    private final int[] ringRow = new int[MOST];
    private int ringSize = 0;
    private int tapeSize = 0;
    private int lastFault = 0;
    private int lastStruck = NONE;

    public EarTown() {
        Charter charter = new Charter();
        here = new Place(charter);
        trial = new Life(charter);
        past = new Past(charter);
        for (int k = 0; k < IMAGES; k++) {
            images[k] = new Place(new Charter());
        }
    }

    public int feed(int a, int b, int c, int d, int e) {
        if (tapeSize > TAPE_BYTES - FED_BYTES) {
            return NONE;
        }
        putNumber(a);
        putNumber(b);
        putNumber(c);
        putNumber(d);
        putNumber(e);
        return tapeSize;
    }

    private void putNumber(int number) {
        for (int shift = 24; shift >= 0; shift -= 8) {
            if (tapeSize < TAPE_BYTES) {
                tape[tapeSize] = (byte) (number >>> shift);
                tapeSize++;
            }
        }
    }

    public boolean end(int n) {
        if (n < 0 || n > tapeSize) {
            return false;
        }
        tapeSize = n;
        return true;
    }

    public int town() {
        openTape(TOWN_BYTES);
        draft.clear();
        int lines = townReader.readTown(reader, draft);
        lastFault = reader.fault;
        if (lines == NONE) {
            return -1 - reader.place;
        }
        here.copyFrom(draft);
        past.clear();
        return lines;
    }

    /** The reader knows how many bytes there are, so that the tape is empty from here on. */
    private void openTape(int limit) {
        reader.open(tape, tapeSize, limit);
        tapeSize = 0;
    }

    public int fault() {
        return lastFault;
    }

    public int person(int p, int what) throws NoSuchElementException {
        if (!here.charter.hasPerson(p)) {
            throw new NoSuchElementException("no such PERSON");
        }
        Charter charter = here.charter;
        Life life = here.life;
        switch (what) {
            case 0: return life.needs[p];
            case 1: return life.left[p];
            case 2: return charter.ears[p];
            case 3: return charter.grows[p];
            case 4: return charter.free >> p & 1;
            case 5: return charter.fake >> p & 1;
            case 6: return life.ruined >> p & 1;
            case 7: return life.heard[p];
            case 8: return life.beenHeard[p];
            case 9: return life.debt(p);
            case 10: return life.credit(p);
            default: throw new NoSuchElementException("no such what of a PERSON");
        }
    }

    public int owes(int a, int b) {
        return arePersons(a, b) ? here.life.note(a, b) : NONE;
    }

    public int story(int s, int what) throws NoSuchElementException {
        if (!here.charter.hasStory(s)) {
            throw new NoSuchElementException("no such STORY");
        }
        switch (what) {
            case 0: return here.charter.owners[s];
            case 1: return here.life.worthNow(s);
            case 2: return here.life.times[s];
            case 3: return here.life.knowers[s];
            default: throw new NoSuchElementException("no such what of a STORY");
        }
    }

    public int now(int what) {
        Life life = here.life;
        switch (what) {
            case 0: return life.day;
            case 1: return life.allHeard();
            case 2: return life.allOwed();
            case 3: return life.counterfeit;
            case 4: return Integer.bitCount(life.ruined);
            case 5: return life.allNeeds();
            case 6: return life.struckOut;
            case 7: return life.hearings;
            default: return NONE;
        }
    }

    public int why(int a, int b, int n) {
        if (!arePersons(a, b) || !isTalkLength(n)) {
            return NONE;
        }
        return here.life.whyNotHear(a, b, n);
    }

    private boolean arePersons(int a, int b) {
        return here.charter.hasPerson(a) && here.charter.hasPerson(b);
    }

    private static boolean isTalkLength(int n) {
        return n >= 1 && n <= LONGEST_TALK;
    }

    public int hear(int a, int b, int n) {
        if (!arePersons(a, b) || !isTalkLength(n)) {
            return NONE;
        }
        int reason = here.life.whyNotHear(a, b, n);
        if (reason == 0) {
            past.push(here.life);
            here.life.liveHearing(a, b, n);
        }
        return reason;
    }

    public int tell(int a, int b, int s) {
        if (!arePersons(a, b) || !here.charter.hasStory(s)) {
            return NONE;
        }
        int reason = here.life.whyNotTell(a, b, s);
        if (reason != 0) {
            return -2 - reason;
        }
        past.push(here.life);
        return here.life.liveTelling(a, b, s);
    }

    public int days(int n) {
        if (n < 1 || n > MOST_DAYS || !here.life.canGo(n)) {
            return NONE;
        }
        past.push(here.life);
        here.life.goDays(n);
        return here.life.day;
    }

    public int strike() {
        trial.copyFrom(here.life);
        int rings = here.life.strikeRings();
        lastStruck = here.life.struckOut - trial.struckOut;
        if (rings > 0) {
            past.push(trial);
        }
        return rings;
    }

    public int struck() {
        return lastStruck;
    }

    public int undo() {
        return past.pop(here.life);
    }

    public int ring() {
        ringSize = here.life.findRing();
        System.arraycopy(here.life.row, 0, ringRow, 0, MOST);
        return ringSize;
    }

    public int ringAt(int i) {
        return i >= 0 && i < ringSize && i < MOST ? ringRow[i] : NONE;
    }

    /** DAYS leave what is owed as it is, so that who would be RUINED first would be at this DAY's end. */
    public int next() {
        for (int p = 0; p < here.charter.persons; p++) {
            if ((here.life.ruined >> p & 1) == 0 && here.life.owesTooMuch(p)) {
                return p;
            }
        }
        return NONE;
    }

    public int hour() {
        return hours.arrange(here.life);
    }

    public int with(int p) {
        return p >= 0 && p < hours.persons ? hours.best[p] : NONE;
    }

    public int prices(int step) {
        if (step < 1 || step > 9 || here.charter.persons == 0) {
            return NONE;
        }
        return market.settle(here.life, step);
    }

    public int price(int p) {
        return p >= 0 && p < market.persons ? market.asked[p] : NONE;
    }

    public int wants(int p) {
        return p >= 0 && p < market.persons ? market.wanted[p] : NONE;
    }

    public long griefs(int n, int j, int k, int m, int what) throws NoSuchElementException {
        if (!areGriefs(n, k, m) || j < 0 || j > MOST_GRIEFS || what < 0 || what > 1) {
            throw new NoSuchElementException("no such GRIEFS");
        }
        long above = waysOfGriefs(n, j, k, m);
        long below = power(m, n);
        long common = commonDivisor(above, below);
        if (common == 0) {
            return 0;
        }
        return what == 0 ? above / common : below / common;
    }

    private static boolean areGriefs(int n, int k, int m) {
        return n >= 1 && n <= MOST_GRIEFS && m >= 1 && m <= 6 && k >= 0 && k <= m;
    }

    /** Of m to the n ways of n DAYS those with just j GRIEFS. */
    private static long waysOfGriefs(int n, int j, int k, int m) {
        if (j > n) {
            return 0;
        }
        long choices = 1;
        for (int i = 1; i <= j; i++) {
            choices = choices * (n - j + i) / i;
        }
        return choices * power(k, j) * power(m - k, n - j);
    }

    private static long power(int base, int exponent) {
        long product = 1;
        for (int i = 0; i < exponent; i++) {
            product *= base;
        }
        return product;
    }

    private static long commonDivisor(long a, long b) {
        long greater = a;
        long less = b;
        for (int i = 0; i < 200 && less != 0; i++) {
            long rest = greater % less;
            greater = less;
            less = rest;
        }
        return greater;
    }

    public int saved(int n, int g, int k, int m, int t) {
        if (!areGriefs(n, k, m) || !isTalkLength(g) || t < 0 || t > NINTHS) {
            return NONE;
        }
        long all = power(m, n);
        long met = 0;
        for (int j = 0; j < n; j++) {
            met += waysOfGriefs(n, j, k, m);
            if (met * NINTHS >= all * t) {
                return j * g;
            }
        }
        return n * g;
    }

    public int sermon(int p, int set, int n) {
        Charter charter = here.charter;
        if (!charter.hasPerson(p) || !isTalkLength(n) || set <= 0 || set >> charter.persons != 0) {
            return NO_SERMON;
        }
        int more = 0;
        for (int q = 0; q < charter.persons; q++) {
            if ((set >> q & 1) == 0) {
                continue;
            }
            if (here.life.whyNotHear(q, p, n) != 0) {
                return NO_SERMON;
            }
            more += Math.max(0, charter.hoursOwedFor(p, n) - here.life.note(q, p));
        }
        return more;
    }

    public int crowd(int p, int n) {
        if (!here.charter.hasPerson(p) || !isTalkLength(n)) {
            return NONE;
        }
        int set = 0;
        for (int q = 0; q < here.charter.persons; q++) {
            if (here.life.whyNotHear(q, p, n) == 0) {
                set |= 1 << q;
            }
        }
        return set;
    }

    public int sold(int p, int s) {
        if (!here.charter.hasPerson(p) || !here.charter.hasStory(s)) {
            return NONE;
        }
        return here.life.sale(p, s);
    }

    public int best(int p) {
        if (!here.charter.hasPerson(p)) {
            return NONE;
        }
        int story = NONE;
        int most = NONE;
        for (int s = 0; s < here.charter.stories; s++) {
            int sale = here.life.sale(p, s);
            if (sale > most) {
                story = s;
                most = sale;
            }
        }
        return story;
    }

    public int talked() {
        int bytes = tapeSize;
        int persons = here.charter.persons;
        tapeSize = 0;
        if (persons < 1 || persons > BALANCES || bytes != persons) {
            return NONE;
        }
        return talkSets.countSets(tape, persons);
    }

    public int talk(int i, int what) {
        return talkSets.firstSet(i, what);
    }

    public int drawn(int n, int m, int seed) {
        if (n < 1 || n > 60 || m < 1 || m > 9 || here.charter.persons == 0 || !here.life.canGo(n)) {
            return NONE;
        }
        past.push(here.life);
        return here.life.liveDraws(n, m, seed);
    }

    public int odds(int p, int n, int seed) {
        if (n < 1 || n > 50 || !here.charter.hasPerson(p) || !here.life.canGo(ODDS_DAYS)) {
            return NONE;
        }
        int times = 0;
        for (int i = 0; i < n; i++) {
            trial.copyFrom(here.life);
            trial.liveDraws(ODDS_DAYS, ODDS_TALKS, seed + i);
            times += trial.ruined >> p & 1;
        }
        return times;
    }

    public int most(int what) {
        if (what < 0 || what > 3) {
            return NONE;
        }
        int first = NONE;
        int greatest = NONE;
        for (int p = 0; p < here.charter.persons; p++) {
            int measure = measureOf(p, what);
            if (measure > greatest) {
                first = p;
                greatest = measure;
            }
        }
        return first;
    }

    private int measureOf(int p, int what) {
        switch (what) {
            case 0: return here.life.credit(p);
            case 1: return here.life.debt(p);
            case 2: return here.life.needs[p];
            default: return here.life.left[p];
        }
    }

    public int book(int lives) {
        if (lives < 0 || lives > 1) {
            return OTHER_LIVES;
        }
        openTape(BOOK_BYTES);
        boolean read = latestBook.readBook(reader, here.charter);
        lastFault = reader.fault;
        if (!read) {
            return -2 - reader.place;
        }
        trial.copyFrom(here.life);
        if (lives == 0) {
            return latestBook.live(trial);
        }
        int wrong = latestBook.live(here.life);
        if (latestBook.told(1) > 0) {
            past.push(trial);
        }
        return wrong;
    }

    public int booked(int what) {
        return latestBook.told(what);
    }

    public int sentence() {
        openTape(SENTENCE_BYTES);
        draft.sentence.clear();
        boolean read = draft.sentence.readCond(reader, here.charter, 1) && reader.take(END);
        lastFault = reader.fault;
        if (!read) {
            return -1 - reader.place;
        }
        here.sentence.copyFrom(draft.sentence);
        return here.sentence.ones;
    }

    public int said(int k) {
        if (here.sentence.ones == 0) {
            return NONE;
        }
        int whom = here.sentence.whom(here.life);
        if (k == NONE) {
            return Integer.bitCount(whom);
        }
        int ahead = 0;
        for (int p = 0; p < here.charter.persons; p++) {
            if ((whom >> p & 1) == 1) {
                if (ahead == k) {
                    return p;
                }
                ahead++;
            }
        }
        return NONE;
    }

    public boolean image(int k) {
        if (k < 0 || k >= IMAGES) {
            return false;
        }
        images[k].copyFrom(here);
        kept[k] = true;
        return true;
    }

    public boolean restore(int k) {
        if (k < 0 || k >= IMAGES || !kept[k]) {
            return false;
        }
        here.copyFrom(images[k]);
        past.clear();
        return true;
    }

    public int count(int what) {
        switch (what) {
            case 0: return here.charter.persons;
            case 1: return here.charter.stories;
            case 2: return here.charter.gift;
            case 3: return here.charter.ruin;
            case 4: return tapeSize;
            default: return NONE;
        }
    }

    /** A TOWN, what is so in it, and its SENTENCE. */
    private static final class Place {
        final Charter charter;
        final Life life;
        final Sentence sentence = new Sentence();

        Place(Charter charter) {
            this.charter = charter;
            this.life = new Life(charter);
        }

        void clear() {
            charter.clear();
            life.clear();
            sentence.clear();
        }

        void copyFrom(Place other) {
            charter.copyFrom(other.charter);
            life.copyFrom(other.life);
            sentence.copyFrom(other.sentence);
        }
    }

    /** What the text of a TOWN tells for good. */
    private static final class Charter {
        final long[] names = new long[MOST];
        final int[] ears = new int[MOST];
        final int[] grows = new int[MOST];
        final long[] titles = new long[MOST];
        final int[] owners = new int[MOST];
        final int[] worths = new int[MOST];
        final int[] falls = new int[MOST];
        int persons = 0;
        int stories = 0;
        /** PERSONS as bits, here and in fake (those who are false). */
        int free = 0;
        int fake = 0;
        int gift = 0;
        int ruin = RUIN_UNTOLD;

        void clear() {
            persons = 0;
            stories = 0;
            free = 0;
            fake = 0;
            gift = 0;
            ruin = RUIN_UNTOLD;
        }

        void copyFrom(Charter other) {
            System.arraycopy(other.names, 0, names, 0, MOST);
            System.arraycopy(other.ears, 0, ears, 0, MOST);
            System.arraycopy(other.grows, 0, grows, 0, MOST);
            System.arraycopy(other.titles, 0, titles, 0, MOST);
            System.arraycopy(other.owners, 0, owners, 0, MOST);
            System.arraycopy(other.worths, 0, worths, 0, MOST);
            System.arraycopy(other.falls, 0, falls, 0, MOST);
            persons = other.persons;
            stories = other.stories;
            free = other.free;
            fake = other.fake;
            gift = other.gift;
            ruin = other.ruin;
        }

        boolean hasPerson(int p) {
            return p >= 0 && p < persons && p < MOST;
        }

        boolean hasStory(int s) {
            return s >= 0 && s < stories && s < MOST;
        }

        int personCalled(long word) {
            for (int p = 0; p < persons; p++) {
                if (names[p] == word) {
                    return p;
                }
            }
            return NONE;
        }

        int storyCalled(long word) {
            for (int s = 0; s < stories; s++) {
                if (titles[s] == word) {
                    return s;
                }
            }
            return NONE;
        }

        boolean isFree(int p) {
            return (free >> p & 1) == 1;
        }

        boolean isFake(int p) {
            return (fake >> p & 1) == 1;
        }

        /** Hours that a PERSON comes to owe who is heard for n hours. */
        int hoursOwedFor(int p, int n) {
            return isFree(p) ? 0 : Math.max(0, n - gift);
        }
    }

    /** What is so in a TOWN, and how it comes to be otherwise. */
    private static final class Life {
        final Charter charter;
        final int[] needs = new int[MOST];
        final int[] left = new int[MOST];
        final int[] heard = new int[MOST];
        final int[] beenHeard = new int[MOST];
        /** Hours that PERSON a owes PERSON b at a * MOST + b. */
        final int[] notes = new int[MOST * MOST];
        final int[] times = new int[MOST];
        final int[] knowers = new int[MOST];
        /** The PERSONS of the RING found last. */
        final int[] row = new int[MOST];
        int ruined = 0;
        int day = 0;
        int counterfeit = 0;
        int struckOut = 0;
        int hearings = 0;

        Life(Charter charter) {
            this.charter = charter;
        }

        void clear() {
            for (int i = 0; i < MOST; i++) {
                needs[i] = 0;
                left[i] = 0;
                heard[i] = 0;
                beenHeard[i] = 0;
                times[i] = 0;
                knowers[i] = 0;
            }
            for (int i = 0; i < MOST * MOST; i++) {
                notes[i] = 0;
            }
            ruined = 0;
            day = 0;
            counterfeit = 0;
            struckOut = 0;
            hearings = 0;
        }

        void copyFrom(Life other) {
            System.arraycopy(other.needs, 0, needs, 0, MOST);
            System.arraycopy(other.left, 0, left, 0, MOST);
            System.arraycopy(other.heard, 0, heard, 0, MOST);
            System.arraycopy(other.beenHeard, 0, beenHeard, 0, MOST);
            System.arraycopy(other.notes, 0, notes, 0, MOST * MOST);
            System.arraycopy(other.times, 0, times, 0, MOST);
            System.arraycopy(other.knowers, 0, knowers, 0, MOST);
            ruined = other.ruined;
            day = other.day;
            counterfeit = other.counterfeit;
            struckOut = other.struckOut;
            hearings = other.hearings;
        }

        int note(int a, int b) {
            return notes[a * MOST + b];
        }

        int debt(int p) {
            int hours = 0;
            for (int q = 0; q < MOST; q++) {
                hours += note(p, q);
            }
            return hours;
        }

        int credit(int p) {
            int hours = 0;
            for (int q = 0; q < MOST; q++) {
                hours += note(q, p);
            }
            return hours;
        }

        int allOwed() {
            int hours = 0;
            for (int p = 0; p < MOST; p++) {
                hours += debt(p);
            }
            return hours;
        }

        int allHeard() {
            int hours = 0;
            for (int p = 0; p < MOST; p++) {
                hours += heard[p];
            }
            return hours;
        }

        int allNeeds() {
            int hours = 0;
            for (int p = 0; p < MOST; p++) {
                hours += needs[p];
            }
            return hours;
        }

        int worthNow(int s) {
            return worthAt(s, times[s]);
        }

        /** The worth of a STORY that was told so often. */
        int worthAt(int s, int toldTimes) {
            return Math.max(0, charter.worths[s] - charter.falls[s] * toldTimes);
        }

        boolean knowsStory(int p, int s) {
            return (knowers[s] >> p & 1) == 1;
        }

        boolean owesTooMuch(int p) {
            return debt(p) > charter.ruin * charter.ears[p];
        }

        void comeToOwe(int debtor, int other, int hours) {
            int less = Math.min(hours, note(other, debtor));
            notes[other * MOST + debtor] -= less;
            notes[debtor * MOST + other] += hours - less;
        }

        int whyNotHear(int a, int b, int n) {
            if (a == b) {
                return 1;
            }
            if (left[a] < n) {
                return 2;
            }
            if (needs[b] < n) {
                return 3;
            }
            return (ruined >> b & 1) == 1 && !charter.isFree(b) ? 4 : 0;
        }

        void liveHearing(int a, int b, int n) {
            left[a] -= n;
            heard[a] += n;
            beenHeard[b] += n;
            hearings++;
            if (charter.isFake(a)) {
                counterfeit += n;
            } else {
                needs[b] -= n;
            }
            comeToOwe(b, a, charter.hoursOwedFor(b, n));
        }

        int whyNotTell(int a, int b, int s) {
            if (a == b) {
                return 1;
            }
            if (!knowsStory(a, s)) {
                return 2;
            }
            return knowsStory(b, s) ? 3 : 0;
        }

        int liveTelling(int a, int b, int s) {
            int worth = worthNow(s);
            knowers[s] |= 1 << b;
            times[s]++;
            comeToOwe(b, a, worth);
            return worth;
        }

        boolean canGo(int n) {
            return day + n <= LAST_DAY;
        }

        void goDays(int n) {
            for (int i = 0; i < n; i++) {
                goDay();
            }
        }

        private void goDay() {
            for (int p = 0; p < charter.persons; p++) {
                if (owesTooMuch(p)) {
                    ruined |= 1 << p;
                }
                left[p] = charter.ears[p];
                needs[p] = Math.min(MOST_NEED, needs[p] + charter.grows[p]);
            }
            day++;
        }

        /** How many PERSONS the RING has that is struck out first, and they in row; 0 without one. */
        int findRing() {
            for (int size = SHORTEST_RING; size <= charter.persons; size++) {
                for (int least = 0; least + size <= charter.persons; least++) {
                    row[0] = least;
                    if (closesRing(1, size, 1 << least)) {
                        return size;
                    }
                }
            }
            return 0;
        }

        /** Tries PERSONS in rising order behind those in row, so that the first RING found is first. */
        private boolean closesRing(int placed, int size, int seen) {
            if (placed < 1 || placed > size || size > MOST) {
                return false;
            }
            int last = row[placed - 1];
            if (placed == size) {
                return note(last, row[0]) > 0;
            }
            for (int q = row[0] + 1; q < charter.persons; q++) {
                if ((seen >> q & 1) == 0 && note(last, q) > 0) {
                    row[placed] = q;
                    if (closesRing(placed + 1, size, seen | 1 << q)) {
                        return true;
                    }
                }
            }
            return false;
        }

        /** Each RING struck out ends a NOTE at least, so that there are fewer RINGS than NOTES. */
        int strikeRings() {
            for (int rings = 0; rings < MOST * MOST; rings++) {
                int size = findRing();
                if (size == 0) {
                    return rings;
                }
                strikeRow(size);
            }
            return MOST * MOST;
        }

        private void strikeRow(int size) {
            int least = note(row[size - 1], row[0]);
            for (int i = 0; i + 1 < size; i++) {
                least = Math.min(least, note(row[i], row[i + 1]));
            }
            for (int i = 0; i < size; i++) {
                int follower = i + 1 < size ? row[i + 1] : row[0];
                notes[row[i] * MOST + follower] -= least;
            }
            struckOut += least * size;
        }

        /** Hours that come of a STORY that a PERSON tells to all others; NONE: it does not KNOW it. */
        int sale(int p, int s) {
            if (!knowsStory(p, s)) {
                return NONE;
            }
            int hours = 0;
            int toldTimes = times[s];
            for (int q = 0; q < charter.persons; q++) {
                if (!knowsStory(q, s)) {
                    hours += worthAt(s, toldTimes);
                    toldTimes++;
                }
            }
            return hours;
        }

        /** Talks DRAWN by a seed: how many were done. */
        int liveDraws(int days, int talks, int seed) {
            int done = 0;
            int x = seed;
            for (int d = 0; d < days; d++) {
                for (int t = 0; t < talks; t++) {
                    x = turned(x);
                    int hearer = draw(x, charter.persons);
                    x = turned(x);
                    int whom = draw(x, charter.persons);
                    x = turned(x);
                    int n = draw(x, 3) + 1;
                    if (whyNotHear(hearer, whom, n) == 0) {
                        liveHearing(hearer, whom, n);
                        done++;
                    }
                }
                goDay();
            }
            return done;
        }

        private static int turned(int x) {
            return x * 1103515245 + 12345;
        }

        private static int draw(int x, int n) {
            return n > 0 ? (x >>> 8) % n : 0;
        }
    }

    /** The latest acts that can be undone: what was so ahead of each. */
    private static final class Past {
        private final Life[] lives = new Life[ACTS_KEPT];
        private int oldest = 0;
        private int size = 0;

        Past(Charter charter) {
            for (int i = 0; i < ACTS_KEPT; i++) {
                lives[i] = new Life(charter);
            }
        }

        void clear() {
            size = 0;
        }

        void push(Life life) {
            if (size == ACTS_KEPT) {
                oldest = (oldest + 1) % ACTS_KEPT;
            } else {
                size++;
            }
            lives[(oldest + size - 1) % ACTS_KEPT].copyFrom(life);
        }

        int pop(Life life) {
            if (size == 0) {
                return NONE;
            }
            size--;
            life.copyFrom(lives[(oldest + size) % ACTS_KEPT]);
            return size;
        }
    }

    /** TOKENS of a text one after another, and its FAULT, which is always at the TOKEN read last. */
    private static final class Reader {
        private byte[] text = new byte[0];
        private int size = 0;
        private int limit = 0;
        private int after = 0;
        int kind = END;
        int place = 0;
        int number = 0;
        /** The letters of a WORD, five bits each. */
        long word = 0;
        /** Which of KEYS a WORD is; NONE: none of them, or it is no WORD. */
        int key = NONE;
        int fault = 0;

        void open(byte[] bytes, int howMany, int mostBytes) {
            text = bytes;
            size = Math.min(howMany, bytes.length);
            limit = mostBytes;
            after = 0;
            fault = 0;
            step();
        }

        void step() {
            place = behindBlanks(after);
            key = NONE;
            if (place >= size || place >= limit) {
                stepToEnd();
                return;
            }
            int c = text[place] & 255;
            if (isLetter(c) || isDigit(c)) {
                stepOverRun();
                key = kind == WORD ? keyOf(place, after) : NONE;
                return;
            }
            after = place + 1;
            kind = isSign(c) ? c : NO_TOKEN;
        }

        /** What goes beyond the most bytes told is as if there were no TOKEN at that place. */
        private void stepToEnd() {
            kind = size > limit ? NO_TOKEN : END;
            place = Math.min(size, limit);
            after = place;
        }

        private int behindBlanks(int from) {
            for (int i = from; i < size; i++) {
                if (text[i] != 32 && text[i] != 10) {
                    return i;
                }
            }
            return size;
        }

        private void stepOverRun() {
            int letters = 0;
            int digits = 0;
            long letterBits = 0;
            int value = 0;
            after = size;
            for (int i = place; i < size; i++) {
                int c = text[i] & 255;
                if (c >= 'a' && c <= 'z') {
                    letters++;
                    letterBits = letterBits << 5 | c - 'a' + 1;
                } else if (c >= '0' && c <= '9') {
                    digits++;
                    value = value * 10 + c - '0';
                } else {
                    after = i;
                    break;
                }
            }
            if (digits == 0 && letters <= 7) {
                kind = WORD;
                word = letterBits;
            } else if (letters == 0 && digits <= 3) {
                kind = NUMBER;
                number = value;
            } else {
                kind = NO_TOKEN;
            }
        }

        private int keyOf(int from, int to) {
            int found = 0;
            int i = from;
            boolean like = true;
            for (int k = 0; k < KEYS.length(); k++) {
                char c = KEYS.charAt(k);
                if (c == ' ') {
                    if (like && i == to) {
                        return found;
                    }
                    found++;
                    i = from;
                    like = true;
                } else if (like && i < to && i < size && text[i] == c) {
                    i++;
                } else {
                    like = false;
                }
            }
            return NONE;
        }

        private static boolean isLetter(int c) {
            return c >= 'a' && c <= 'z';
        }

        private static boolean isDigit(int c) {
            return c >= '0' && c <= '9';
        }

        private static boolean isSign(int c) {
            return c == ';' || c == '<' || c == '=' || c == '>' || c == '(' || c == ')';
        }

        /** Tells a FAULT at the TOKEN read last: NONE, for callers to hand on. */
        int refuse(int faultKind) {
            fault = faultKind;
            return NONE;
        }

        /** The same, for callers who hand on whether there was none. */
        boolean refused(int faultKind) {
            fault = faultKind;
            return false;
        }

        /** Goes behind a sign, or behind the end, where the next TOKEN is the end again. */
        boolean take(int due) {
            if (kind != due) {
                return refused(CANT_COME);
            }
            step();
            return true;
        }

        int takeNumber(int least, int most) {
            if (kind != NUMBER) {
                return refuse(CANT_COME);
            }
            if (number < least || number > most) {
                return refuse(BAD_NUMBER);
            }
            int taken = number;
            step();
            return taken;
        }

        boolean isName() {
            return kind == WORD && key == NONE;
        }

        /** The PERSON whose NAME the TOKEN is, which stays the one read last; NONE with a FAULT. */
        int personHere(Charter charter) {
            if (!isName()) {
                return refuse(CANT_COME);
            }
            int p = charter.personCalled(word);
            return p == NONE ? refuse(BAD_NAME) : p;
        }

        int takePerson(Charter charter) {
            int p = personHere(charter);
            if (p != NONE) {
                step();
            }
            return p;
        }

        int takeStory(Charter charter) {
            if (!isName()) {
                return refuse(CANT_COME);
            }
            int s = charter.storyCalled(word);
            if (s == NONE) {
                return refuse(BAD_NAME);
            }
            step();
            return s;
        }
    }

    /** Reads the text of a TOWN into a Place that is clear. */
    private static final class TownReader {
        private boolean giftTold = false;
        private boolean ruinTold = false;

        /** How many LINES; NONE with a FAULT. */
        int readTown(Reader reader, Place place) {
            giftTold = false;
            ruinTold = false;
            for (int lines = 0; lines <= TAPE_BYTES; lines++) {
                if (reader.kind == END) {
                    return lines;
                }
                if (!readLine(reader, place.charter, place.life) || !reader.take(';')) {
                    return NONE;
                }
            }
            return reader.refuse(CANT_COME);
        }

        private boolean readLine(Reader reader, Charter charter, Life life) {
            switch (reader.key) {
                case KEY_PERSON: return readPerson(reader, charter, life);
                case KEY_OWES: return readNote(reader, charter, life);
                case KEY_STORY: return readStory(reader, charter, life);
                case KEY_FREE: return readFree(reader, charter);
                case KEY_FALSE: return readFake(reader, charter);
                case KEY_GIFT: return readGift(reader, charter);
                case KEY_RUIN: return readRuin(reader, charter);
                default: return reader.refused(CANT_COME);
            }
        }

        private static boolean readPerson(Reader reader, Charter charter, Life life) {
            int p = charter.persons;
            if (p >= MOST) {
                return reader.refused(TOO_MANY);
            }
            reader.step();
            if (!isNewName(reader, charter)) {
                return false;
            }
            long name = reader.word;
            reader.step();
            int need = reader.takeNumber(0, 99);
            int ear = need == NONE ? NONE : reader.takeNumber(0, 24);
            int grows = ear == NONE ? NONE : reader.takeNumber(0, 9);
            if (grows == NONE) {
                return false;
            }
            charter.names[p] = name;
            charter.ears[p] = ear;
            charter.grows[p] = grows;
            charter.persons++;
            life.needs[p] = need;
            life.left[p] = ear;
            return true;
        }

        private static boolean isNewName(Reader reader, Charter charter) {
            if (!reader.isName()) {
                return reader.refused(CANT_COME);
            }
            if (charter.personCalled(reader.word) != NONE || charter.storyCalled(reader.word) != NONE) {
                return reader.refused(BAD_NAME);
            }
            return true;
        }

        private static boolean readNote(Reader reader, Charter charter, Life life) {
            reader.step();
            int a = reader.takePerson(charter);
            int b = a == NONE ? NONE : reader.personHere(charter);
            if (b == NONE) {
                return false;
            }
            if (a == b || life.note(a, b) > 0 || life.note(b, a) > 0) {
                return reader.refused(BAD_NAME);
            }
            reader.step();
            int hours = reader.takeNumber(1, 99);
            if (hours == NONE) {
                return false;
            }
            life.notes[a * MOST + b] = hours;
            return true;
        }

        private static boolean readStory(Reader reader, Charter charter, Life life) {
            int s = charter.stories;
            if (s >= MOST) {
                return reader.refused(TOO_MANY);
            }
            reader.step();
            if (!isNewName(reader, charter)) {
                return false;
            }
            long title = reader.word;
            reader.step();
            int owner = reader.takePerson(charter);
            int worth = owner == NONE ? NONE : reader.takeNumber(0, 99);
            int falls = worth == NONE ? NONE : reader.takeNumber(0, 9);
            if (falls == NONE) {
                return false;
            }
            charter.titles[s] = title;
            charter.owners[s] = owner;
            charter.worths[s] = worth;
            charter.falls[s] = falls;
            charter.stories++;
            life.knowers[s] = 1 << owner;
            return true;
        }

        private static boolean readFree(Reader reader, Charter charter) {
            int p = readMarked(reader, charter, charter.free);
            if (p == NONE) {
                return false;
            }
            charter.free |= 1 << p;
            return true;
        }

        private static boolean readFake(Reader reader, Charter charter) {
            int p = readMarked(reader, charter, charter.fake);
            if (p == NONE) {
                return false;
            }
            charter.fake |= 1 << p;
            return true;
        }

        /** The PERSON told behind the LINE's WORD, none of those of whom it was told already. */
        private static int readMarked(Reader reader, Charter charter, int already) {
            reader.step();
            int p = reader.personHere(charter);
            if (p == NONE) {
                return NONE;
            }
            if ((already >> p & 1) == 1) {
                return reader.refuse(BAD_NAME);
            }
            reader.step();
            return p;
        }

        private boolean readGift(Reader reader, Charter charter) {
            if (giftTold) {
                return reader.refused(BAD_NAME);
            }
            giftTold = true;
            reader.step();
            int hours = reader.takeNumber(0, 9);
            if (hours == NONE) {
                return false;
            }
            charter.gift = hours;
            return true;
        }

        private boolean readRuin(Reader reader, Charter charter) {
            if (ruinTold) {
                return reader.refused(BAD_NAME);
            }
            ruinTold = true;
            reader.step();
            int times = reader.takeNumber(1, 99);
            if (times == NONE) {
                return false;
            }
            charter.ruin = times;
            return true;
        }
    }

    /** The LINES of a BOOK, and how the latest one went. */
    private static final class Book {
        private final int[] acts = new int[BOOK_LINES];
        private final int[] firsts = new int[BOOK_LINES];
        private final int[] seconds = new int[BOOK_LINES];
        private final int[] thirds = new int[BOOK_LINES];
        private int lines = 0;
        private boolean lived = false;
        private int wrongWhy = 0;
        private int ahead = 0;
        private int hoursHeard = 0;
        private int ringsStruck = 0;

        boolean readBook(Reader reader, Charter charter) {
            lines = 0;
            for (int i = 0; i <= BOOK_LINES; i++) {
                if (reader.kind == END) {
                    return true;
                }
                if (!readLine(reader, charter) || !reader.take(';')) {
                    return false;
                }
            }
            return false;
        }

        private boolean readLine(Reader reader, Charter charter) {
            boolean dayOrStrike = reader.key == KEY_DAY || reader.key == KEY_STRIKE;
            int first = dayOrStrike ? 0 : reader.personHere(charter);
            if (first == NONE) {
                return false;
            }
            if (lines >= BOOK_LINES) {
                return reader.refused(TOO_MANY);
            }
            int act = reader.key;
            reader.step();
            if (act == KEY_STRIKE) {
                return addLine(act, 0, 0, 0);
            }
            if (act == KEY_DAY) {
                return addLine(act, 0, 0, reader.takeNumber(1, MOST_DAYS));
            }
            return readTalk(reader, charter, first);
        }

        private boolean readTalk(Reader reader, Charter charter, int first) {
            int act = reader.key;
            if (act != KEY_HEARS && act != KEY_TELLS) {
                return reader.refused(CANT_COME);
            }
            reader.step();
            int second = reader.takePerson(charter);
            if (second == NONE) {
                return false;
            }
            int third = act == KEY_HEARS ? reader.takeNumber(1, LONGEST_TALK) : reader.takeStory(charter);
            return addLine(act, first, second, third);
        }

        private boolean addLine(int act, int first, int second, int third) {
            if (third == NONE || lines >= BOOK_LINES) {
                return false;
            }
            acts[lines] = act;
            firsts[lines] = first;
            seconds[lines] = second;
            thirds[lines] = third;
            lines++;
            return true;
        }

        /** Lives as far as no LINE is WRONG: the LINE that is, or NONE. */
        int live(Life life) {
            lived = true;
            wrongWhy = 0;
            hoursHeard = 0;
            ringsStruck = 0;
            for (ahead = 0; ahead < lines; ahead++) {
                wrongWhy = liveLine(life, ahead);
                if (wrongWhy != 0) {
                    return ahead;
                }
            }
            return NONE;
        }

        /** Why the LINE is WRONG; 0: it was lived. */
        private int liveLine(Life life, int i) {
            int third = thirds[i];
            switch (acts[i]) {
                case KEY_HEARS: return liveHears(life, firsts[i], seconds[i], third);
                case KEY_TELLS: return liveTells(life, firsts[i], seconds[i], third);
                case KEY_DAY:
                    if (!life.canGo(third)) {
                        return WRONG_DAY;
                    }
                    life.goDays(third);
                    return 0;
                default:
                    ringsStruck += life.strikeRings();
                    return 0;
            }
        }

        private int liveHears(Life life, int a, int b, int n) {
            int reason = life.whyNotHear(a, b, n);
            if (reason == 0) {
                life.liveHearing(a, b, n);
                hoursHeard += n;
            }
            return reason;
        }

        private static int liveTells(Life life, int a, int b, int s) {
            int reason = life.whyNotTell(a, b, s);
            if (reason != 0) {
                return WRONG_TELL + reason;
            }
            life.liveTelling(a, b, s);
            return 0;
        }

        int told(int what) {
            if (!lived) {
                return NONE;
            }
            switch (what) {
                case 0: return wrongWhy;
                case 1: return ahead;
                case 2: return hoursHeard;
                case 3: return ringsStruck;
                default: return NONE;
            }
        }
    }

    /** A SENTENCE, its ONES and what joins them in the order in which they are worked out. */
    private static final class Sentence {
        /** Each ONE but the first is joined once at most. */
        private static final int STEPS = 2 * ONES;
        private final int[] keys = new int[STEPS];
        private final int[] signs = new int[STEPS];
        private final int[] numbers = new int[STEPS];
        /** Sets of PERSONS as bits, those worked out and not yet joined. */
        private final int[] sets = new int[STEPS];
        private int steps = 0;
        /** 0: there is no SENTENCE. */
        int ones = 0;

        void clear() {
            steps = 0;
            ones = 0;
        }

        void copyFrom(Sentence other) {
            System.arraycopy(other.keys, 0, keys, 0, STEPS);
            System.arraycopy(other.signs, 0, signs, 0, STEPS);
            System.arraycopy(other.numbers, 0, numbers, 0, STEPS);
            steps = other.steps;
            ones = other.ones;
        }

        private boolean readCond(Reader reader, Charter charter, int depth) {
            if (!readAll(reader, charter, depth)) {
                return false;
            }
            for (int i = 0; i <= ONES && reader.key == KEY_OR; i++) {
                reader.step();
                if (!readAll(reader, charter, depth)) {
                    return false;
                }
                addStep(KEY_OR, 0, 0);
            }
            return true;
        }

        private boolean readAll(Reader reader, Charter charter, int depth) {
            if (!readOne(reader, charter, depth)) {
                return false;
            }
            for (int i = 0; i <= ONES && reader.key == KEY_AND; i++) {
                reader.step();
                if (!readOne(reader, charter, depth)) {
                    return false;
                }
                addStep(KEY_AND, 0, 0);
            }
            return true;
        }

        /** The depth says how many ONES stand within one another here, this one counted. */
        private boolean readOne(Reader reader, Charter charter, int depth) {
            boolean bracket = reader.kind == '(';
            if (!bracket && !beginsOne(reader.key)) {
                return reader.refused(CANT_COME);
            }
            if (ones >= ONES || depth > WITHIN) {
                return reader.refused(TOO_MANY);
            }
            ones++;
            int key = reader.key;
            reader.step();
            if (bracket) {
                return readCond(reader, charter, depth + 1) && reader.take(')');
            }
            if (key == KEY_NOT) {
                return readOne(reader, charter, depth + 1) && addStep(KEY_NOT, 0, 0);
            }
            return isMeasure(key) ? readMeasure(reader, key) : readPlainOne(reader, charter, key);
        }

        private static boolean beginsOne(int key) {
            return key == KEY_NOT || key == KEY_RUINED || key == KEY_FREE || key == KEY_FALSE
                    || key == KEY_KNOWS || key == KEY_OWES || isMeasure(key);
        }

        private static boolean isMeasure(int key) {
            return key == KEY_NEED || key == KEY_EAR || key == KEY_DEBT || key == KEY_CREDIT || key == KEY_PLACE;
        }

        private boolean readPlainOne(Reader reader, Charter charter, int key) {
            int number = 0;
            if (key == KEY_KNOWS) {
                number = reader.takeStory(charter);
            } else if (key == KEY_OWES) {
                number = reader.takePerson(charter);
            }
            return number != NONE && addStep(key, 0, number);
        }

        private boolean readMeasure(Reader reader, int key) {
            int sign = reader.kind;
            if (sign != '<' && sign != '=' && sign != '>') {
                return reader.refused(CANT_COME);
            }
            reader.step();
            int number = reader.takeNumber(0, 999);
            return number != NONE && addStep(key, sign, number);
        }

        private boolean addStep(int key, int sign, int number) {
            if (steps >= STEPS) {
                return false;
            }
            keys[steps] = key;
            signs[steps] = sign;
            numbers[steps] = number;
            steps++;
            return true;
        }

        /** PERSONS of whom it may be said, as bits. */
        int whom(Life life) {
            int all = (1 << life.charter.persons) - 1;
            int size = 0;
            for (int i = 0; i < steps; i++) {
                int key = keys[i];
                if (key == KEY_NOT) {
                    if (size >= 1) {
                        sets[size - 1] = all & ~sets[size - 1];
                    }
                } else if (key == KEY_AND || key == KEY_OR) {
                    if (size >= 2) {
                        size--;
                        sets[size - 1] = joined(key, sets[size - 1], sets[size]);
                    }
                } else if (size < STEPS) {
                    sets[size] = setOf(life, i);
                    size++;
                }
            }
            return sets[0];
        }

        private static int joined(int key, int a, int b) {
            return key == KEY_AND ? a & b : a | b;
        }

        private int setOf(Life life, int i) {
            int set = 0;
            for (int p = 0; p < life.charter.persons; p++) {
                if (holds(life, i, p)) {
                    set |= 1 << p;
                }
            }
            return set;
        }

        private boolean holds(Life life, int i, int p) {
            switch (keys[i]) {
                case KEY_RUINED: return (life.ruined >> p & 1) == 1;
                case KEY_FREE: return life.charter.isFree(p);
                case KEY_FALSE: return life.charter.isFake(p);
                case KEY_KNOWS: return life.knowsStory(p, numbers[i]);
                case KEY_OWES: return life.note(p, numbers[i]) > 0;
                case KEY_NEED: return compares(life.needs[p], i);
                case KEY_EAR: return compares(life.left[p], i);
                case KEY_DEBT: return compares(life.debt(p), i);
                case KEY_CREDIT: return compares(life.credit(p), i);
                default: return compares(p, i);
            }
        }

        private boolean compares(int measure, int i) {
            int number = numbers[i];
            switch (signs[i]) {
                case '<': return measure < number;
                case '=': return measure == number;
                default: return measure > number;
            }
        }
    }

    /** HOUR: who HEARS whom, so that most NEED is met. */
    private static final class Hours {
        private static final int IS_HEARD = 100;
        private static final int HEARS = 200;
        private final int[] pairs = new int[MOST];
        final int[] best = new int[MOST];
        private int most = NONE;
        /** PERSONS of the latest HOUR; NONE ahead of any. */
        int persons = NONE;

        int arrange(Life life) {
            persons = life.charter.persons;
            most = NONE;
            for (int p = 0; p < MOST; p++) {
                pairs[p] = 0;
                best[p] = 0;
            }
            tryFrom(life, 0, 0);
            return most;
        }

        /** Goes through all arrangements in the document's order, so that of like ones the first stays. */
        private void tryFrom(Life life, int from, int met) {
            int p = from;
            while (p < persons && pairs[p] != 0) {
                p++;
            }
            if (p >= persons) {
                keepIfMore(met);
                return;
            }
            tryFrom(life, p + 1, met);
            for (int q = p + 1; q < persons; q++) {
                if (pairs[q] != 0) {
                    continue;
                }
                if (life.whyNotHear(q, p, 1) == 0) {
                    tryPair(life, p, q, IS_HEARD, met + life.needs[p]);
                }
                if (life.whyNotHear(p, q, 1) == 0) {
                    tryPair(life, p, q, HEARS, met + life.needs[q]);
                }
            }
        }

        private void tryPair(Life life, int p, int q, int role, int met) {
            pairs[p] = role + q;
            pairs[q] = IS_HEARD + HEARS - role + p;
            tryFrom(life, p + 1, met);
            pairs[p] = 0;
            pairs[q] = 0;
        }

        private void keepIfMore(int met) {
            if (met > most) {
                most = met;
                System.arraycopy(pairs, 0, best, 0, MOST);
            }
        }
    }

    /** PRICES of an hour by hearer. */
    private static final class Market {
        final int[] asked = new int[MOST];
        final int[] wanted = new int[MOST];
        private final int[] hours = new int[MOST];
        /** PERSONS of the latest PRICES; NONE ahead of any. */
        int persons = NONE;

        int settle(Life life, int step) {
            persons = life.charter.persons;
            for (int p = 0; p < MOST; p++) {
                asked[p] = 0;
                wanted[p] = NONE;
            }
            for (int round = 1; round < MOST_ROUNDS; round++) {
                choose(life);
                if (!raise(life.charter, step)) {
                    return round;
                }
            }
            choose(life);
            raise(life.charter, step);
            return MOST_ROUNDS;
        }

        private void choose(Life life) {
            for (int p = 0; p < persons; p++) {
                hours[p] = 0;
            }
            for (int p = 0; p < persons; p++) {
                int hearer = life.needs[p] > 0 ? cheapestFor(life.charter, p) : NONE;
                wanted[p] = hearer;
                if (hearer != NONE) {
                    hours[hearer] += life.needs[p];
                }
            }
        }

        private int cheapestFor(Charter charter, int p) {
            int hearer = NONE;
            for (int q = 0; q < persons; q++) {
                boolean canBe = q != p && charter.ears[q] > 0;
                if (canBe && (hearer == NONE || asked[q] < asked[hearer])) {
                    hearer = q;
                }
            }
            return hearer;
        }

        private boolean raise(Charter charter, int step) {
            boolean raised = false;
            for (int q = 0; q < persons; q++) {
                if (hours[q] > charter.ears[q]) {
                    asked[q] += step;
                    raised = true;
                }
            }
            return raised;
        }
    }

    /** TALKED: sets of talks by which balances come. */
    private static final class TalkSets {
        /** What the talks chosen so far leave of the balances. */
        private final int[] rest = new int[BALANCES];
        /** Talks by their numbers, which rise by who HEARS, whom, hours. */
        private final int[] chosen = new int[SET_TALKS];
        private final int[] first = new int[SET_TALKS];
        private int firstSize = 0;
        private int firstPersons = 0;
        private int persons = 0;
        private int found = 0;

        int countSets(byte[] tape, int howMany) {
            persons = Math.min(howMany, BALANCES);
            found = 0;
            for (int p = 0; p < persons; p++) {
                rest[p] = (tape[p] & 255) - BALANCE_ZERO;
            }
            for (int size = 0; size <= SET_TALKS; size++) {
                choose(0, size, 0);
            }
            return found;
        }

        private void choose(int placed, int size, int from) {
            if (placed == size) {
                if (size == 0 && isRestNothing()) {
                    keepFound(size);
                }
                return;
            }
            if (placed == size - 1) {
                chooseLast(placed, size, from);
                return;
            }
            for (int t = from; t < persons * persons * SET_HOURS; t++) {
                if (canChoose(t, placed)) {
                    chosen[placed] = t;
                    takeFromRest(t, 1);
                    choose(placed + 1, size, t + 1);
                    takeFromRest(t, -1);
                }
            }
        }

        private boolean isRestNothing() {
            for (int p = 0; p < persons; p++) {
                if (rest[p] != 0) {
                    return false;
                }
            }
            return true;
        }

        /** The rest itself says which talk the last one has to be, if there is one. */
        private void chooseLast(int placed, int size, int from) {
            int t = talkOfRest();
            if (t >= from && canChoose(t, placed)) {
                chosen[placed] = t;
                keepFound(size);
            }
        }

        private int talkOfRest() {
            int hearer = NONE;
            int whom = NONE;
            for (int p = 0; p < persons; p++) {
                if (rest[p] > 0) {
                    if (hearer != NONE) {
                        return NONE;
                    }
                    hearer = p;
                } else if (rest[p] < 0) {
                    if (whom != NONE) {
                        return NONE;
                    }
                    whom = p;
                }
            }
            if (hearer == NONE || whom == NONE) {
                return NONE;
            }
            int hours = rest[hearer];
            if (hours > SET_HOURS || rest[whom] != -hours) {
                return NONE;
            }
            return (hearer * persons + whom) * SET_HOURS + hours - 1;
        }

        private boolean canChoose(int t, int placed) {
            int a = hearerOf(t, persons);
            int b = whomOf(t, persons);
            if (a == b) {
                return false;
            }
            for (int i = 0; i < placed; i++) {
                int c = hearerOf(chosen[i], persons);
                int d = whomOf(chosen[i], persons);
                if (a == c && b == d || a == d && b == c) {
                    return false;
                }
            }
            return true;
        }

        private void takeFromRest(int t, int times) {
            int hours = hoursOf(t) * times;
            rest[hearerOf(t, persons)] -= hours;
            rest[whomOf(t, persons)] += hours;
        }

        private void keepFound(int size) {
            if (found == 0) {
                System.arraycopy(chosen, 0, first, 0, SET_TALKS);
                firstSize = size;
                firstPersons = persons;
            }
            found++;
        }

        int firstSet(int i, int what) {
            if (i < 0 || i >= firstSize || i >= SET_TALKS) {
                return NONE;
            }
            switch (what) {
                case 0: return hearerOf(first[i], firstPersons);
                case 1: return whomOf(first[i], firstPersons);
                case 2: return hoursOf(first[i]);
                default: return NONE;
            }
        }

        private static int hearerOf(int t, int persons) {
            return persons > 0 ? t / SET_HOURS / persons : 0;
        }

        private static int whomOf(int t, int persons) {
            return persons > 0 ? t / SET_HOURS % persons : 0;
        }

        private static int hoursOf(int t) {
            return t % SET_HOURS + 1;
        }
    }
}
