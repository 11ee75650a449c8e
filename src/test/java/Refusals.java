import java.util.Arrays;
import java.util.function.ToLongFunction;

/**
 * Refused calls and wrong inputs: of two objects that lived the same, one is asked what has to be
 * refused; behind that both have to answer everything alike, down to what undo(), restore() and the
 * tape still hold.
 */
final class Refusals {
    private static final String TOWN = "person a 20 9 1;person b 30 8 2;person c 10 0 2;person d 7 6 1;owes a b 3;owes b c 2;owes c a 4;"
            + "story s c 20 5;story t a 3 2;free c;false d;gift 1;ruin 2;";
    private static final int[] STRANGE = EdgesOfLife.STRANGE;

    /** What of an object a refused call may change: the tape and the FAULT told, for a text; nothing else ever. */
    private enum Left { ALL, ALL_BUT_TEXT }

    private interface Deed {
        void on(EarTown x);
    }

    private Refusals() {
    }

    static void all() {
        persons();
        stories();
        tape();
        texts();
        reckonings();
        talked();
        places();
        late();
        empty();
        full();
        reckoned();
    }

    /** An object of which every call has told something. */
    private static EarTown lived() {
        EarTown x = new EarTown();
        Kit.town(x, "person z 1 2 3;");
        Kit.sentence(x, "place = 0");
        x.image(1);
        Kit.town(x, TOWN);
        x.ring();
        x.hour();
        x.prices(3);
        Kit.feed(x, "fbdd");
        x.talked();
        x.strike();
        x.hear(0, 1, 2);
        x.image(0);
        x.tell(2, 0, 0);
        Kit.book(x, "b hears a 1;day 1;d hears d 1;", 1);
        Kit.sentence(x, "owes a or knows t");
        Kit.sentence(x, "owes 4");
        Kit.feed(x, "not ear > 8");
        return x;
    }

    /** Everything that an object answers; at the end what it can undo and restore. */
    private static long[] shown(EarTown x, Left left) {
        long[] row = new long[420];
        int n = toldLast(x, row, 0);
        if (left == Left.ALL) {
            row[n++] = x.fault();
            row[n++] = x.count(4);
            row[n++] = x.sentence();
            row[n++] = x.said(-1);
            row[n++] = x.said(0);
        }
        n = soNow(x, row, n);
        for (int i = 0; i < 5; i++) {
            row[n++] = x.undo();
            n = soNow(x, row, n);
        }
        for (int k = 0; k < 2; k++) {
            row[n++] = x.restore(k) ? 1 : 0;
            n = soNow(x, row, n);
        }
        return row;
    }

    private static int toldLast(EarTown x, long[] row, int from) {
        int n = from;
        for (int i = 0; i < 5; i++) {
            row[n++] = x.ringAt(i);
            row[n++] = x.with(i);
            row[n++] = x.price(i);
            row[n++] = x.wants(i);
            row[n++] = x.booked(i);
            row[n++] = x.talk(i % 2, i % 3);
            row[n++] = x.said(i - 1);
            row[n++] = x.count(i % 4);
        }
        row[n++] = x.struck();
        return n;
    }

    private static int soNow(EarTown x, long[] row, int from) {
        int n = from;
        for (int what = 0; what < 8; what++) {
            row[n++] = x.now(what);
        }
        for (int p = 0; p < 4 && p < x.count(0); p++) {
            row[n++] = x.person(p, 0);
            row[n++] = x.person(p, 1);
            row[n++] = x.person(p, 6);
            row[n++] = x.person(p, 9);
        }
        row[n++] = x.count(1) > 0 ? x.story(0, 3) * 10 + x.story(0, 2) : -1;
        row[n++] = x.said(-1);
        row[n++] = x.said(0);
        return n;
    }

    private static void changesNothing(String what, Deed refused, Left left) {
        sameBehind(what, lived(), lived(), refused, left);
    }

    private static void sameBehind(String what, EarTown plain, EarTown asked, Deed refused, Left left) {
        refused.on(asked);
        long[] due = shown(plain, left);
        long[] got = shown(asked, left);
        Kit.due("the first answer that is not alike behind " + what, Arrays.mismatch(due, got), -1);
    }

    private static void refuse(String what, long due, Kit.Call call) {
        if (due == Kit.THROWN) {
            Kit.dueThrow(what, call);
        } else {
            Kit.due(what, call.answer(), due);
        }
    }

    /** Each of the calls has to answer so, and none may leave anything behind. */
    private static void refused(String what, long due, ToLongFunction<EarTown> call) {
        changesNothing(what, x -> refuse(what, due, () -> call.applyAsLong(x)), Left.ALL);
    }

    private static void persons() {
        Doc.holds(6, "NoSuchElementException: no such ones.", "A call that throws changes nothing.");
        refused("person(4, 0)", Kit.THROWN, x -> x.person(4, 0));
        refused("person(0, 11)", Kit.THROWN, x -> x.person(0, 11));
        refused("person(-1, 0)", Kit.THROWN, x -> x.person(-1, 0));
        Doc.holds(7, "NONE: no such ones.");
        refused("owes(4, 0)", -1, x -> x.owes(4, 0));
        Doc.holds(10, "NONE: no such ones.");
        refused("why(0, 1, 25)", -1, x -> x.why(0, 1, 25));
        Doc.holds(11, "why not, the least: 1 it is itself;", "or why not;", "NONE: no such ones.");
        refused("hear(0, 0, 1)", 1, x -> x.hear(0, 0, 1));
        refused("hear(2, 0, 1)", 2, x -> x.hear(2, 0, 1));
        refused("hear(0, 3, 9)", 3, x -> x.hear(0, 3, 9));
        refused("hear(0, 1, 0)", -1, x -> x.hear(0, 1, 0));
        refused("hear(4, 1, 1)", -1, x -> x.hear(4, 1, 1));
        for (int n : STRANGE) {
            refused("hear(0, 1, " + n + ")", -1, x -> x.hear(0, 1, n));
        }
        Doc.holds(13, "NONE: not as told, it would be above 9999.");
        refused("days(0)", -1, x -> x.days(0));
        refused("days(31)", -1, x -> x.days(31));
        refused("days(" + Integer.MAX_VALUE + ")", -1, x -> x.days(Integer.MAX_VALUE));
        Doc.holds(14, "how many RINGS were struck out.");
        EarTown plain = lived();
        EarTown asked = lived();
        Kit.due("strike() of no RING", asked.strike(), 0);
        Kit.due("struck() then", asked.struck(), 0);
        plain.strike();
        sameBehind("strike() of no RING", plain, asked, x -> x.strike(), Left.ALL);
        Doc.holds(16, "that was done is undone: how many more can be");
        EarTown done = lived();
        done.strike();
        Kit.due("strike() of no RING is none of them", done.undo(), 3);
    }

    private static void stories() {
        Doc.holds(8, "NoSuchElementException: no such ones.", "A call that throws changes nothing.");
        refused("story(2, 0)", Kit.THROWN, x -> x.story(2, 0));
        refused("story(0, 4)", Kit.THROWN, x -> x.story(0, 4));
        Doc.holds(12, "-2 less why not;", "NONE: no such ones.");
        refused("tell(2, 2, 0)", -3, x -> x.tell(2, 2, 0));
        refused("tell(1, 2, 0)", -4, x -> x.tell(1, 2, 0));
        refused("tell(2, 0, 0)", -5, x -> x.tell(2, 0, 0));
        refused("tell(0, 1, 2)", -1, x -> x.tell(0, 1, 2));
        refused("tell(0, 4, 1)", -1, x -> x.tell(0, 4, 1));
        Doc.holds(29, "NONE: no such ones, it does not KNOW it.");
        refused("sold(1, 0)", -1, x -> x.sold(1, 0));
        refused("sold(0, 2)", -1, x -> x.sold(0, 2));
        Doc.holds(30, "NONE: it KNOWS none, no such one.");
        refused("best(3)", -1, x -> x.best(3));
        refused("best(4)", -1, x -> x.best(4));
    }

    private static void tape() {
        Doc.holds(3, "false, if it has not so many, or n is below 0.");
        refused("end(12)", 0, x -> x.end(12) ? 1 : 0);
        refused("end(-1)", 0, x -> x.end(-1) ? 1 : 0);
        Doc.holds(5, "(a book() of -1000 leaves it);");
        refused("book(3)", -1000, x -> x.book(3));
        Doc.holds(36, "-1000: another lives (the tape stays).");
        refused("book(2)", -1000, x -> x.book(2));
        refused("book(-1)", -1000, x -> x.book(-1));
    }

    private static void text(String what, long due, String text, ToLongFunction<EarTown> call) {
        changesNothing(what + " of " + text, x -> {
            x.end(0);
            Kit.feed(x, text);
            Kit.due(what + " of " + text, call.applyAsLong(x), due);
            Kit.due("the tape behind it", x.count(4), 0);
        }, Left.ALL_BUT_TEXT);
    }

    private static void texts() {
        Doc.holds(4, "-1 less the place of a FAULT: it stays.");
        text("town()", -1, "z", x -> x.town());
        text("town()", -TOWN.length() - 1, TOWN + "z", x -> x.town());
        text("town()", -TOWN.length(), TOWN.substring(0, TOWN.length() - 1), x -> x.town());
        text("town()", -1 - 22, "person a 9 9 9;person a 9 9 9;", x -> x.town());
        text("town()", -1 - 12, "gift 9;ruin 100;", x -> x.town());
        Doc.holds(38, "-1 less the place of a FAULT: it stays.");
        text("sentence()", -1, "", x -> x.sentence());
        text("sentence()", -5, "free;", x -> x.sentence());
        text("sentence()", -33, "not ".repeat(8) + "free", x -> x.sentence());
        Doc.holds(36, "-2 less the place of a FAULT;");
        text("book(1)", -2 - 12, "a hears b 1;z", x -> x.book(1));
        text("book(1)", -2 - 5, "day 1", x -> x.book(1));
        text("book(0)", -2 - 7, "strike;z", x -> x.book(0));
        Doc.holds(36, "all staying as it is (lives 0),");
        EarTown plain = lived();
        plain.end(0);
        Kit.book(plain, "d hears d 1;", 0);
        sameBehind("BOOKS that are judged", plain, lived(), x -> {
            x.end(0);
            Kit.due("judged", Kit.book(x, "day 1;a hears b 1;c tells b s;strike;", 0), -1);
            Kit.due("WRONG at once", Kit.book(x, "d hears d 1;", 0), 0);
        }, Left.ALL_BUT_TEXT);
    }

    private static void reckonings() {
        Doc.holds(18, "NONE: there is none such, or ahead of any.");
        refused("ringAt(3)", -1, x -> x.ringAt(3));
        Doc.holds(21, "NONE: no such one, or ahead of any.");
        refused("with(4)", -1, x -> x.with(4));
        Doc.holds(22, "NONE: not as told, no PERSONS.");
        refused("prices(0)", -1, x -> x.prices(0));
        refused("prices(10)", -1, x -> x.prices(10));
        refused("prices(" + Integer.MIN_VALUE + ")", -1, x -> x.prices(Integer.MIN_VALUE));
        Doc.holds(23, "NONE: no such one, or ahead of any.");
        refused("price(4)", -1, x -> x.price(4));
        Doc.holds(24, "NONE: no one, no such one, or ahead of any.");
        refused("wants(4)", -1, x -> x.wants(4));
        Doc.holds(25, "NoSuchElementException: no such ones.", "A call that throws changes nothing.");
        refused("griefs(0, 0, 1, 2, 0)", Kit.THROWN, x -> x.griefs(0, 0, 1, 2, 0));
        refused("griefs(1, 0, 1, 2, 2)", Kit.THROWN, x -> x.griefs(1, 0, 1, 2, 2));
        Doc.holds(26, "NONE: not as told.");
        refused("saved(0, 1, 1, 2, 1)", -1, x -> x.saved(0, 1, 1, 2, 1));
        Doc.holds(27, "NONE - 1000: it can't be, no such ones.");
        refused("sermon(0, 4, 1)", -1001, x -> x.sermon(0, 4, 1));
        refused("sermon(0, 1, 1)", -1001, x -> x.sermon(0, 1, 1));
        refused("sermon(4, 1, 1)", -1001, x -> x.sermon(4, 1, 1));
        Doc.holds(28, "NONE: no such ones.");
        refused("crowd(0, 25)", -1, x -> x.crowd(0, 25));
        Doc.holds(33, "NONE: not as told, no PERSONS, the DAY would be above 9999.");
        refused("drawn(0, 1, 1)", -1, x -> x.drawn(0, 1, 1));
        refused("drawn(61, 1, 1)", -1, x -> x.drawn(61, 1, 1));
        refused("drawn(1, 0, 1)", -1, x -> x.drawn(1, 0, 1));
        refused("drawn(1, 10, 1)", -1, x -> x.drawn(1, 10, 1));
        Doc.holds(34, "NONE: not as told, no such one, the DAY would be above 9999.");
        refused("odds(4, 1, 1)", -1, x -> x.odds(4, 1, 1));
        refused("odds(0, 51, 1)", -1, x -> x.odds(0, 51, 1));
        Doc.holds(35, "NONE: no PERSONS, another what.");
        refused("most(4)", -1, x -> x.most(4));
    }

    private static void talked() {
        Doc.holds(32, "by the latest talked() that was 1 or more");
        text("talked()", -1, "ddd", x -> x.talked());
        text("talked()", -1, "", x -> x.talked());
        text("talked()", 0, "eeee", x -> x.talked());
        Doc.holds(32, "NONE: there is none such, or ahead of any.");
        refused("talk(1, 0)", -1, x -> x.talk(1, 0));
        refused("talk(0, 3)", -1, x -> x.talk(0, 3));
    }

    private static void places() {
        Doc.holds(9, "NONE for another what.");
        refused("now(8)", -1, x -> x.now(8));
        Doc.holds(37, "NONE: another what, or ahead of any.");
        refused("booked(4)", -1, x -> x.booked(4));
        Doc.holds(39, "NONE: there is no SENTENCE, none such.");
        refused("said(-2)", -1, x -> x.said(-2));
        refused("said(4)", -1, x -> x.said(4));
        Doc.holds(40, "false: no such one.");
        refused("image(2)", 0, x -> x.image(2) ? 1 : 0);
        refused("image(-1)", 0, x -> x.image(-1) ? 1 : 0);
        Doc.holds(41, "false: no such one, or nothing is kept there.");
        refused("restore(2)", 0, x -> x.restore(2) ? 1 : 0);
        refused("restore(-1)", 0, x -> x.restore(-1) ? 1 : 0);
        Doc.holds(42, "NONE for another what.");
        refused("count(5)", -1, x -> x.count(5));
        refused("count(-1)", -1, x -> x.count(-1));
    }

    private static void late() {
        Doc.holds(13, "it would be above 9999.");
        EarTown plain = EdgesOfLife.lateTown(9970);
        EarTown asked = EdgesOfLife.lateTown(9970);
        Kit.due("drawn() to 10000", asked.drawn(30, 9, 1), -1);
        Kit.due("odds() to 10000", asked.odds(0, 1, 1), -1);
        Kit.due("a BOOK to 10000", Kit.book(asked, "day 30;", 1), 0);
        Kit.due("a BOOK to 10000", Kit.book(plain, "day 30;", 0), 0);
        sameBehind("days() to 10000", plain, asked, x -> Kit.due("days(30)", x.days(30), -1), Left.ALL);
    }

    private static void empty() {
        Doc.holds(1, "An empty TOWN; an empty tape.");
        sameBehind("calls on an empty TOWN", new EarTown(), new EarTown(), x -> {
            Kit.due("undo()", x.undo(), -1);
            Kit.due("restore(0)", x.restore(0), false);
            Kit.due("end(1)", x.end(1), false);
            Kit.due("hear(0, 0, 1)", x.hear(0, 0, 1), -1);
            Kit.due("tell(0, 0, 0)", x.tell(0, 0, 0), -1);
            Kit.due("prices(1)", x.prices(1), -1);
            Kit.due("talked()", x.talked(), -1);
            Kit.due("drawn(1, 1, 1)", x.drawn(1, 1, 1), -1);
            Kit.due("odds(0, 1, 1)", x.odds(0, 1, 1), -1);
            Kit.due("book(2)", x.book(2), -1000);
            Kit.due("days(0)", x.days(0), -1);
            Kit.due("most(0)", x.most(0), -1);
            Kit.due("next()", x.next(), -1);
            Kit.dueThrow("person(0, 0)", () -> x.person(0, 0));
            Kit.dueThrow("story(0, 0)", () -> x.story(0, 0));
        }, Left.ALL);
    }

    private static void leavesAll(String what, Deed asked) {
        EarTown x = lived();
        long[] ahead = EdgesOfLife.all(x);
        asked.on(x);
        Kit.due("the first answer that " + what + " changed", Arrays.mismatch(ahead, EdgesOfLife.all(x)), -1);
        Kit.due("acts ahead of " + what, x.undo(), 3);
    }

    /** What is only reckoned is not lived. */
    private static void reckoned() {
        Doc.holds(17, "The RING that would be struck out first: how many PERSONS;");
        leavesAll("ring()", x -> x.ring());
        Doc.holds(19, "Who would be RUINED first, if only DAYS went by");
        leavesAll("next()", x -> x.next());
        Doc.holds(20, "HOUR: the NEEDS of those heard together.");
        leavesAll("hour()", x -> x.hour());
        Doc.holds(22, "PRICES by a step (1 to 9): how many ROUNDS till they REST");
        leavesAll("prices()", x -> x.prices(4));
        Doc.holds(27, "SERMON of PERSON p to a set (bits, not p, one at least) for n (1 to 24) hours: hours more that it owes;");
        leavesAll("sermon()", x -> Kit.due("sermon()", x.sermon(0, 2, 1), 0));
        Doc.holds(28, "The set of most PERSONS who could HEAR a PERSON for n hours, as bits;");
        leavesAll("crowd()", x -> x.crowd(0, 1));
        Doc.holds(29, "SOLD by a PERSON;");
        leavesAll("sold()", x -> Kit.due("sold()", x.sold(2, 0), 25));
        Doc.holds(30, "The STORY by which a PERSON would have most SOLD");
        leavesAll("best()", x -> Kit.due("best()", x.best(2), 0));
        Doc.holds(31, "TALKED by the tape (a byte for each PERSON: its balance and 100): how many sets;");
        leavesAll("talked()", x -> {
            x.end(0);
            Kit.feed(x, "fbdd");
            Kit.due("talked()", x.talked(), 11);
        });
        Doc.holds(34, "by how many a PERSON is RUINED behind 30 DAYS of 4 talks DRAWN from now on;");
        leavesAll("odds()", x -> x.odds(0, 50, 3));
    }

    private static void full() {
        Doc.holds(2, "NONE, and none come, if it would have more than 940.");
        EarTown plain = fullTape();
        sameBehind("feed() of a full tape", plain, fullTape(), x -> Kit.due("feed()", x.feed(-1, -1, -1, -1, -1), -1), Left.ALL);
    }

    /** A tape of 921 bytes, a SENTENCE at first, blanks then. */
    private static EarTown fullTape() {
        EarTown x = Kit.of(TOWN);
        x.hear(0, 1, 2);
        Kit.feed(x, "free");
        int blanks = 0x20202020;
        for (int i = 0; i < 45; i++) {
            x.feed(blanks, blanks, blanks, blanks, blanks);
        }
        x.end(904);
        x.feed(blanks, blanks, blanks, blanks, blanks);
        x.end(921);
        return x;
    }
}
