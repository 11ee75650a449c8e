/** Promises 6 to 16, 19, 35 to 37, 39 to 41: what is so, acts, BOOKS lived, SENTENCES said, undo, images. */
public final class LifeTest {
    private static final String TOWN = "person a 5 8 1;person b 3 4 0;person c 10 0 2;person d 0 6 1;"
            + "owes a b 3;owes b c 2;owes c a 4;story s c 20 5;story t a 3 2;free c;false d;gift 1;ruin 2;";

    private static final String EIGHT = "person a 1 1 1;person b 1 1 1;person c 1 1 1;person d 1 1 1;"
            + "person e 1 1 1;person f 1 1 1;person g 1 1 1;person h 1 1 1;";

    public static void main(String[] args) {
        newTowns();
        eight();
        person();
        owes();
        story();
        now();
        why();
        hear();
        tell();
        days();
        next();
        undo();
        most();
        book();
        said();
        images();
        stays();
        Kit.finish();
    }

    private static void row(String what, EarTown x, int p, int... wants) {
        for (int i = 0; i < wants.length; i++) {
            Kit.due(what + " person(" + p + ", " + i + ")", x.person(p, i), wants[i]);
        }
    }

    /** Nothing of an earlier TOWN, or of a text with a FAULT, is left in a new one. */
    private static void newTowns() {
        EarTown x = Kit.of(TOWN);
        x.hear(0, 1, 1);
        x.tell(2, 0, 0);
        x.strike();
        x.days(2);
        Kit.town(x, TOWN + "person");
        Kit.due("a FAULT leaves it", x.now(0), 2);
        Kit.due("new", Kit.town(x, EIGHT + "story q h 0 0;"), 9);
        Kit.due("gift", x.count(2), 0);
        Kit.due("ruin", x.count(3), 10);
        nowIs("new", x, 0, 0, 0, 0, 0, 8, 0, 0);
        for (int p = 0; p < 8; p++) {
            row("new", x, p, 1, 1, 1, 1, 0, 0, 0, 0, 0, 0, 0);
        }
        Kit.due("its story's owner", x.story(0, 0), 7);
        Kit.due("worth nothing", x.story(0, 1), 0);
        Kit.due("never told", x.story(0, 2), 0);
        Kit.due("known to the owner alone", x.story(0, 3), 128);
        Kit.due("old names are not told", Kit.book(x, "a tells b s;", 0), -2 - 10);
        Kit.town(x, "");
        Kit.due("empty", x.count(0) + x.count(1) + x.now(5), 0);
        Kit.town(x, EIGHT);
        x.image(0);
        Kit.town(x, TOWN);
        x.restore(0);
        nowIs("restored", x, 0, 0, 0, 0, 0, 8, 0, 0);
    }

    private static void eight() {
        EarTown x = Kit.of(EIGHT + "owes a h 9;owes h b 11;free h;");
        row("eighth", x, 7, 1, 1, 1, 1, 1, 0, 0, 0, 0, 11, 9);
        Kit.due("owes(7, 1)", x.owes(7, 1), 11);
        Kit.due("next", x.next(), 7);
        Kit.due("hear", x.hear(7, 6, 1), 0);
        Kit.due("hear the eighth", x.hear(6, 7, 1), 0);
        Kit.due("most(1)", x.most(1), 7);
        Kit.due("days", x.days(1), 1);
        Kit.due("ruined", x.person(7, 6), 1);
        Kit.due("no ring", x.ring(), 0);
        Kit.due("nobody is next", x.next(), -1);
        Kit.dueThrow("person(8, 0)", () -> x.person(8, 0));
        Kit.dueThrow("story(0, 0)", () -> x.story(0, 0));
    }

    private static void person() {
        EarTown x = Kit.of(TOWN);
        row("told", x, 0, 5, 8, 8, 1, 0, 0, 0, 0, 0, 3, 4);
        row("told", x, 1, 3, 4, 4, 0, 0, 0, 0, 0, 0, 2, 3);
        row("told", x, 2, 10, 0, 0, 2, 1, 0, 0, 0, 0, 4, 2);
        row("told", x, 3, 0, 6, 6, 1, 0, 1, 0, 0, 0, 0, 0);
        Kit.dueThrow("person(4, 0)", () -> x.person(4, 0));
        Kit.dueThrow("person(-1, 0)", () -> x.person(-1, 0));
        Kit.dueThrow("person(0, 11)", () -> x.person(0, 11));
        Kit.dueThrow("person(0, -1)", () -> x.person(0, -1));
        x.hear(0, 1, 2);
        x.days(1);
        row("later", x, 0, 6, 8, 8, 1, 0, 0, 0, 2, 0, 2, 4);
        row("later", x, 1, 1, 4, 4, 0, 0, 0, 0, 0, 2, 2, 2);
        row("later", x, 2, 12, 0, 0, 2, 1, 0, 1, 0, 0, 4, 2);
    }

    private static void owes() {
        EarTown x = Kit.of(TOWN);
        Kit.due("owes(0, 1)", x.owes(0, 1), 3);
        Kit.due("owes(1, 0)", x.owes(1, 0), 0);
        Kit.due("owes(0, 0)", x.owes(0, 0), 0);
        Kit.due("owes(3, 0)", x.owes(3, 0), 0);
        Kit.due("owes(4, 0)", x.owes(4, 0), -1);
        Kit.due("owes(0, 4)", x.owes(0, 4), -1);
        Kit.due("owes(-1, 0)", x.owes(-1, 0), -1);
        Kit.due("owes(0, -1)", x.owes(0, -1), -1);
        Kit.due("owes(0, 8)", x.owes(0, 8), -1);
    }

    private static void story() {
        EarTown x = Kit.of(TOWN);
        Kit.due("story(0, 0)", x.story(0, 0), 2);
        Kit.due("story(1, 0)", x.story(1, 0), 0);
        Kit.due("story(1, 1)", x.story(1, 1), 3);
        Kit.due("story(1, 3)", x.story(1, 3), 1);
        x.tell(0, 3, 1);
        Kit.due("worth falls", x.story(1, 1), 1);
        Kit.due("told once", x.story(1, 2), 1);
        Kit.due("two know it", x.story(1, 3), 9);
        x.tell(3, 1, 1);
        Kit.due("worth is 0 at least", x.story(1, 1), 0);
        Kit.due("told twice", x.story(1, 2), 2);
        Kit.dueThrow("story(2, 0)", () -> x.story(2, 0));
        Kit.dueThrow("story(-1, 0)", () -> x.story(-1, 0));
        Kit.dueThrow("story(0, 4)", () -> x.story(0, 4));
        Kit.dueThrow("story(0, -1)", () -> x.story(0, -1));
    }

    private static void nowIs(String what, EarTown x, int... wants) {
        for (int i = 0; i < wants.length; i++) {
            Kit.due(what + " now(" + i + ")", x.now(i), wants[i]);
        }
    }

    private static void now() {
        EarTown x = Kit.of(TOWN);
        nowIs("told", x, 0, 0, 9, 0, 0, 18, 0, 0, -1);
        Kit.due("now(-1)", x.now(-1), -1);
        x.hear(0, 1, 2);
        x.hear(3, 0, 3);
        nowIs("heard", x, 0, 5, 10, 3, 0, 16, 0, 2);
        x.days(2);
        nowIs("two days on", x, 2, 5, 10, 3, 1, 24, 0, 2);
        x.strike();
        nowIs("struck", x, 2, 5, 4, 3, 1, 24, 6, 2);
    }

    private static void why() {
        EarTown x = Kit.of(TOWN);
        Kit.due("itself", x.why(3, 3, 24), 1);
        Kit.due("no ear", x.why(2, 0, 1), 2);
        Kit.due("all its ear", x.why(1, 0, 4), 0);
        Kit.due("more than its ear", x.why(1, 0, 5), 2);
        Kit.due("ear ahead of need", x.why(1, 3, 5), 2);
        Kit.due("all its need", x.why(0, 1, 3), 0);
        Kit.due("more than its need", x.why(0, 1, 4), 3);
        Kit.due("n 0", x.why(0, 1, 0), -1);
        Kit.due("n 25", x.why(0, 1, 25), -1);
        Kit.due("n 24", x.why(0, 1, 24), 2);
        Kit.due("why(4, 0, 1)", x.why(4, 0, 1), -1);
        Kit.due("why(0, 4, 1)", x.why(0, 4, 1), -1);
        Kit.due("why(-1, 0, 1)", x.why(-1, 0, 1), -1);
        Kit.due("why(0, -1, 1)", x.why(0, -1, 1), -1);
        x.days(1);
        Kit.due("ruined, but free", x.why(0, 2, 1), 0);
        EarTown y = Kit.of("person a 5 1 0;person b 3 4 0;owes a b 11;");
        Kit.due("not yet ruined", y.why(1, 0, 1), 0);
        y.days(1);
        Kit.due("ruined", y.why(1, 0, 1), 4);
        Kit.due("need ahead of ruined", Kit.of("person a 0 1 0;person b 3 4 0;owes a b 11;").why(1, 0, 1), 3);
        Kit.due("it can hear", y.why(0, 1, 1), 0);
        Kit.due("nothing was lived", y.now(7), 0);
    }

    private static void hear() {
        EarTown x = Kit.of(TOWN);
        Kit.due("why not 1", x.hear(0, 0, 1), 1);
        Kit.due("why not 2", x.hear(2, 0, 1), 2);
        Kit.due("why not 3", x.hear(0, 1, 4), 3);
        Kit.due("no such one", x.hear(0, 4, 1), -1);
        Kit.due("no such hours", x.hear(0, 1, 0), -1);
        Kit.due("nothing to undo", x.undo(), -1);
        Kit.due("hear", x.hear(0, 1, 3), 0);
        Kit.due("the gift is taken off, what is owed is less", x.owes(0, 1), 1);
        Kit.due("no note back", x.owes(1, 0), 0);
        Kit.due("ear less", x.person(0, 1), 5);
        Kit.due("need less", x.person(1, 0), 0);
        Kit.due("false hearer", x.hear(3, 0, 5), 0);
        Kit.due("its ear less", x.person(3, 1), 1);
        Kit.due("need stays", x.person(0, 0), 5);
        Kit.due("counterfeit", x.now(3), 5);
        Kit.due("owed all the same", x.owes(0, 3), 4);
        Kit.due("free one", x.hear(1, 2, 4), 0);
        Kit.due("free owes nothing", x.owes(2, 1), 0);
        Kit.due("nor is what is owed to it less", x.owes(1, 2), 2);
        Kit.due("an hour within the gift", x.hear(3, 2, 1), 0);
        Kit.due("ruined one's own debt stays", x.person(2, 9), 4);
        EarTown y = Kit.of("person a 9 9 0;person b 9 9 0;owes a b 2;gift 3;");
        Kit.due("within the gift", y.hear(0, 1, 2), 0);
        Kit.due("nothing comes to be owed", y.owes(0, 1), 2);
        Kit.due("beyond", y.hear(0, 1, 6), 0);
        Kit.due("less first", y.owes(0, 1), 0);
        Kit.due("the rest is a note", y.owes(1, 0), 1);
    }

    private static void tell() {
        EarTown x = Kit.of(TOWN);
        Kit.due("itself", x.tell(2, 2, 0), -3);
        Kit.due("itself, not knowing", x.tell(0, 0, 0), -3);
        Kit.due("it does not know", x.tell(0, 1, 0), -4);
        Kit.due("both do not", x.tell(1, 3, 0), -4);
        Kit.due("no such story", x.tell(0, 1, 2), -1);
        Kit.due("no story -1", x.tell(0, 1, -1), -1);
        Kit.due("no such teller", x.tell(4, 1, 0), -1);
        Kit.due("no such other", x.tell(2, -1, 0), -1);
        Kit.due("nothing to undo", x.undo(), -1);
        Kit.due("tell", x.tell(2, 0, 0), 20);
        Kit.due("what it was owed is less first", x.owes(2, 0), 0);
        Kit.due("the rest", x.owes(0, 2), 16);
        Kit.due("known already", x.tell(2, 0, 0), -5);
        Kit.due("told on", x.tell(0, 3, 0), 15);
        Kit.due("to the one who told it", x.owes(3, 0), 15);
        Kit.due("the owner knows", x.tell(3, 2, 0), -5);
        Kit.due("a free one owes for stories", x.tell(0, 2, 1), 3);
        Kit.due("its note", x.owes(0, 2), 13);
        x.tell(0, 1, 1);
        Kit.due("worth nothing", x.tell(0, 3, 1), 0);
        Kit.due("undone", x.undo(), 4);
        Kit.due("it can be told again", x.tell(0, 3, 1), 0);
    }

    private static void days() {
        EarTown x = Kit.of("person a 95 3 9;person b 0 0 0;person c 1 1 1;owes a c 31;owes c b 1;");
        Kit.due("days(0)", x.days(0), -1);
        Kit.due("days(31)", x.days(31), -1);
        Kit.due("days(-1)", x.days(-1), -1);
        x.hear(0, 2, 1);
        Kit.due("ear", x.person(0, 1), 2);
        Kit.due("days(1)", x.days(1), 1);
        Kit.due("ear is whole", x.person(0, 1), 3);
        Kit.due("need grows", x.person(0, 0), 104);
        Kit.due("not more than ruin", x.person(0, 6), 0);
        x.hear(2, 0, 1);
        x.days(1);
        Kit.due("more than ruin", x.person(0, 6), 1);
        Kit.due("who owes nothing is not ruined", x.person(1, 6), 0);
        x.undo();
        x.undo();
        Kit.due("undone", x.person(0, 6), 0);
        for (int i = 0; i < 4; i++) {
            x.days(30);
        }
        Kit.due("need is 999 at most", x.person(0, 0), 999);
        EarTown y = new EarTown();
        for (int i = 0; i < 333; i++) {
            y.days(30);
        }
        Kit.due("9990", y.now(0), 9990);
        Kit.due("above 9999", y.days(10), -1);
        Kit.due("9999", y.days(9), 9999);
        Kit.due("above 9999 by one", y.days(1), -1);
        Kit.due("it stays", y.now(0), 9999);
        Kit.due("book's day", Kit.book(y, "strike;day 1;", 1), 1);
        Kit.due("booked(0)", y.booked(0), 20);
        y.undo();
        y.undo();
        Kit.due("book's day that goes", Kit.book(y, "day 9;", 1), -1);
        Kit.due("day", y.now(0), 9999);
        EarTown z = Kit.of("person a 5 1 0;person b 3 4 0;owes a b 11;");
        z.days(1);
        z.hear(0, 1, 1);
        z.tell(0, 1, 0);
        z.days(1);
        Kit.due("owes ruin times ear", z.person(0, 9), 10);
        Kit.due("ruined for good", z.person(0, 6), 1);
    }

    private static void next() {
        EarTown x = Kit.of("person a 5 1 0;person b 3 1 0;person c 1 1 1;owes a b 10;owes b c 11;owes c a 12;");
        Kit.due("next", x.next(), 1);
        x.days(1);
        Kit.due("ruined ones are left out", x.next(), -1);
        Kit.due("two were", x.now(4), 2);
        Kit.due("the first", Kit.of("person a 5 0 0;person b 1 1 0;owes a b 1;").next(), 0);
        Kit.due("nobody", Kit.of("person a 5 0 0;").next(), -1);
        Kit.due("no ear, one hour", Kit.of("person a 5 1 0;person b 1 0 0;owes b a 1;ruin 99;").next(), 1);
    }

    private static void undo() {
        EarTown x = Kit.of("person a 50 24 0;person b 50 24 0;person c 1 1 1;person d 1 1 1;"
                + "owes a c 1;owes c d 1;owes d a 1;story s a 5 1;");
        x.hear(0, 1, 25);
        x.tell(1, 0, 0);
        x.days(31);
        x.drawn(0, 1, 1);
        Kit.book(x, "a hears a 1;", 1);
        Kit.book(x, "day 1;", 0);
        Kit.due("nothing was done", x.undo(), -1);
        x.hear(0, 1, 1);
        x.tell(0, 1, 0);
        x.days(1);
        x.strike();
        x.strike();
        x.drawn(1, 1, 1);
        Kit.book(x, "strike;", 1);
        Kit.due("the book", x.undo(), 5);
        Kit.due("the draw", x.undo(), 4);
        Kit.due("struck so far", x.now(6), 3);
        Kit.due("the strike", x.undo(), 3);
        Kit.due("struck no more", x.now(6), 0);
        Kit.due("its note", x.owes(2, 3), 1);
        Kit.due("struck() stays", x.struck(), 0);
        Kit.due("the day", x.undo(), 2);
        Kit.due("day 0", x.now(0), 0);
        Kit.due("the telling", x.undo(), 1);
        Kit.due("who knows", x.story(0, 3), 1);
        Kit.due("how often", x.story(0, 2), 0);
        Kit.due("the hearing", x.undo(), 0);
        Kit.due("hearings", x.now(7) + x.now(1) + x.person(1, 8), 0);
        Kit.due("need", x.person(1, 0), 50);
        Kit.due("ear", x.person(0, 1), 24);
        Kit.due("none more", x.undo(), -1);
        for (int i = 1; i <= 11; i++) {
            x.days(1);
        }
        for (int i = 7; i >= 0; i--) {
            Kit.due("eight are kept", x.undo(), i);
        }
        Kit.due("the ninth is not", x.undo(), -1);
        Kit.due("day 3", x.now(0), 3);
        Kit.sentence(x, "free");
        x.days(1);
        Kit.sentence(x, "not free");
        x.undo();
        Kit.due("the SENTENCE is no act", x.said(-1), 4);
        x.days(1);
        Kit.town(x, "gift 1");
        Kit.due("a FAULT leaves acts", x.undo(), 0);
        x.days(1);
        Kit.town(x, "gift 1;");
        Kit.due("a new TOWN does not", x.undo(), -1);
    }

    private static void most() {
        EarTown x = Kit.of(TOWN);
        Kit.due("most(0)", x.most(0), 0);
        Kit.due("most(1)", x.most(1), 2);
        Kit.due("most(2)", x.most(2), 2);
        Kit.due("most(3)", x.most(3), 0);
        Kit.due("most(4)", x.most(4), -1);
        Kit.due("most(-1)", x.most(-1), -1);
        x.hear(0, 1, 3);
        Kit.due("ear left, not as told", x.most(3), 3);
        EarTown y = Kit.of("person a 0 0 0;person b 0 0 0;");
        for (int what = 0; what < 4; what++) {
            Kit.due("of like ones the first", y.most(what), 0);
        }
        Kit.due("no PERSONS", new EarTown().most(1), -1);
    }

    private static void bookedIs(String what, EarTown x, int... wants) {
        for (int i = 0; i < wants.length; i++) {
            Kit.due(what + " booked(" + i + ")", x.booked(i), wants[i]);
        }
    }

    private static void book() {
        EarTown x = Kit.of(TOWN);
        Kit.due("ahead of any", x.booked(0), -1);
        Kit.due("judged", Kit.book(x, "strike;a hears b 2;d hears a 4;c tells a s;day 3;a hears b 2;", 0), 5);
        bookedIs("judged", x, 3, 5, 6, 1, -1);
        Kit.due("booked(-1)", x.booked(-1), -1);
        Kit.due("all stays", x.now(0) + x.now(1) + x.now(6), 0);
        Kit.due("nothing to undo", x.undo(), -1);
        Kit.due("lived", Kit.book(x, "strike;a hears b 2;d hears a 4;c tells a s;day 3;a hears b 2;", 1), 5);
        bookedIs("lived", x, 3, 5, 6, 1);
        nowIs("lived", x, 3, 6, x.now(2), 4, 1, 5 + 3 + 1 + 16 + 3, 6, 2);
        Kit.due("a FAULT", Kit.book(x, "strike;day;", 1), -2 - 10);
        x.book(7);
        bookedIs("as before", x, 3, 5, 6, 1);
        Kit.due("struck() is not of BOOKS", x.struck(), -1);
        Kit.due("one act", x.undo(), 0);
        nowIs("undone", x, 0, 0, 9, 0, 0, 18, 0, 0);
        bookedIs("undo leaves it", x, 3, 5, 6, 1);
        Kit.due("tells itself", Kit.book(x, "c tells c s;", 1), 0);
        bookedIs("tells itself", x, 11, 0, 0, 0);
        Kit.due("it does not know it", Kit.book(x, "a tells b s;", 1), 0);
        bookedIs("it does not know it", x, 12, 0, 0, 0);
        Kit.due("known", Kit.book(x, "c tells b s;b tells c s;", 0), 1);
        bookedIs("known", x, 13, 1, 0, 0);
        Kit.due("itself", Kit.book(x, "a hears a 24;", 0), 0);
        bookedIs("itself", x, 1, 0, 0, 0);
        Kit.due("ear", Kit.book(x, "b hears a 4;b hears a 1;", 0), 1);
        bookedIs("ear", x, 2, 1, 4, 0);
        Kit.due("none is wrong", Kit.book(x, "b hears a 4;day 30;b hears a 1;", 1), -1);
        bookedIs("none is wrong", x, 0, 3, 5, 0);
        EarTown y = Kit.of("person a 5 1 0;person b 3 4 0;owes a b 11;");
        Kit.due("ruined", Kit.book(y, "b hears a 1;day 1;b hears a 1;", 1), 2);
        bookedIs("ruined", y, 4, 2, 1, 0);
        Kit.due("an empty book is no act", Kit.book(y, "", 1), -1);
        bookedIs("empty", y, 0, 0, 0, 0);
        Kit.due("one act to undo", y.undo(), 0);
    }

    private static void saidIs(String town, String text, int... persons) {
        EarTown x = Kit.of(town);
        x.days(1);
        if (Kit.sentence(x, text) < 0) {
            Kit.due("a FAULT in " + text, 1, 0);
        }
        Kit.due("said(-1) of " + text, x.said(-1), persons.length);
        for (int k = 0; k < persons.length; k++) {
            Kit.due("said(" + k + ") of " + text, x.said(k), persons[k]);
        }
        Kit.due("no more of " + text, x.said(persons.length), -1);
        Kit.due("said(-2) of " + text, x.said(-2), -1);
    }

    private static void said() {
        saidIs(TOWN, "ruined", 2);
        saidIs(TOWN, "free", 2);
        saidIs(TOWN, "false", 3);
        saidIs(TOWN, "knows s", 2);
        saidIs(TOWN, "knows t", 0);
        saidIs(TOWN, "owes b", 0);
        saidIs(TOWN, "owes a", 2);
        saidIs(TOWN, "owes d");
        saidIs("person a 1 1 1;person b 1 1 1;owes b a 1;", "owes a", 1);
        saidIs(EIGHT, "not free", 0, 1, 2, 3, 4, 5, 6, 7);
        saidIs(TOWN, "need > 3", 0, 2);
        saidIs(TOWN, "need = 3", 1);
        saidIs(TOWN, "need < 3", 3);
        saidIs(TOWN, "ear > 5", 0, 3);
        saidIs(TOWN, "debt = 3", 0);
        saidIs(TOWN, "credit = 3", 1);
        saidIs(TOWN, "debt < 3", 1, 3);
        saidIs(TOWN, "place > 1", 2, 3);
        saidIs(TOWN, "place < 0");
        saidIs(TOWN, "not place = 2", 0, 1, 3);
        saidIs(TOWN, "place = 0 or place = 1 and place = 2", 0);
        saidIs(TOWN, "(place = 0 or place = 1) and place = 1", 1);
        saidIs(TOWN, "place = 1 and place = 2 or place = 0", 0);
        saidIs(TOWN, "not place = 0 or place = 0", 0, 1, 2, 3);
        saidIs(TOWN, "not (place = 0 or place = 1)", 2, 3);
        saidIs(TOWN, "not not (not free and not false)", 0, 1);
        saidIs(TOWN, "not free and false", 3);
        EarTown x = Kit.of(TOWN);
        Kit.due("no SENTENCE", x.said(-1), -1);
        Kit.due("no SENTENCE's first", x.said(0), -1);
        Kit.sentence(x, "ear < 8 and ear > 0");
        Kit.due("told of now", x.said(-1), 2);
        x.hear(0, 1, 1);
        Kit.due("told of later", x.said(-1), 3);
        Kit.sentence(x, "credit = 2 or knows t");
        x.tell(0, 3, 1);
        Kit.due("who knows now", x.said(2), 3);
        Kit.town(x, "person a 1 1 1;");
        Kit.due("a new TOWN has none", x.said(-1), -1);
        EarTown y = new EarTown();
        Kit.due("of an empty TOWN", Kit.sentence(y, "not free"), 2);
        Kit.due("of nobody", y.said(-1), 0);
        Kit.due("nobody", y.said(0), -1);
    }

    private static void images() {
        EarTown x = Kit.of(TOWN);
        Kit.due("image(2)", x.image(2), false);
        Kit.due("image(-1)", x.image(-1), false);
        Kit.due("nothing kept", x.restore(0), false);
        Kit.due("restore(2)", x.restore(2), false);
        Kit.due("restore(-1)", x.restore(-1), false);
        Kit.sentence(x, "free");
        x.days(2);
        Kit.due("image(1)", x.image(1), true);
        Kit.due("not 0", x.restore(0), false);
        Kit.due("image leaves acts, no restore does not", x.undo(), 0);
        x.hear(0, 1, 1);
        Kit.sentence(x, "not free");
        Kit.town(x, "person z 1 1 1;gift 4;ruin 3;story y z 1 1;story x z 2 2;");
        Kit.due("image(0)", x.image(0), true);
        x.days(1);
        Kit.feed(x, "abc");
        Kit.due("restore(1)", x.restore(1), true);
        Kit.due("the tape stays", x.count(4), 3);
        Kit.due("persons", x.count(0), 4);
        Kit.due("stories", x.count(1), 2);
        Kit.due("gift", x.count(2), 1);
        Kit.due("ruin", x.count(3), 2);
        Kit.due("day", x.now(0), 2);
        Kit.due("its SENTENCE", x.said(0), 2);
        Kit.due("nothing can be undone", x.undo(), -1);
        row("as kept", x, 0, 7, 8, 8, 1, 0, 0, 0, 0, 0, 3, 4);
        row("as kept", x, 2, 14, 0, 0, 2, 1, 0, 1, 0, 0, 4, 2);
        x.end(0);
        Kit.due("its names", Kit.book(x, "d hears a 1;c tells a s;", 1), -1);
        Kit.due("kept once, restored again", x.restore(1), true);
        Kit.due("as kept again", x.now(7) + x.story(0, 2), 0);
        Kit.due("restore(0)", x.restore(0), true);
        Kit.due("no SENTENCE there", x.said(-1), -1);
        Kit.due("the other TOWN", x.count(0), 1);
        Kit.due("its STORY", x.story(1, 1), 2);
        Kit.due("its day", x.now(0), 0);
        x.days(7);
        x.image(0);
        x.days(7);
        x.restore(0);
        Kit.due("the latest image", x.now(0), 7);
    }

    /** What other calls told last stays with a new TOWN and a restored one. */
    private static void stays() {
        EarTown x = Kit.of("person a 4 5 0;person b 2 3 0;person c 0 9 0;owes a b 1;owes b c 1;owes c a 1;");
        x.ring();
        x.hour();
        x.prices(2);
        x.strike();
        Kit.feed(x, "fbd");
        x.talked();
        Kit.book(x, "a hears b 2;", 0);
        x.image(0);
        Kit.town(x, "person z 1 1 1;");
        for (int round = 0; round < 2; round++) {
            Kit.due("ring stays", x.ringAt(2), 2);
            Kit.due("hour stays", x.with(1), 200);
            Kit.due("hour's PERSONS stay", x.with(3), -1);
            Kit.due("price stays", x.price(1), 2);
            Kit.due("wants stays", x.wants(1), 0);
            Kit.due("struck stays", x.struck(), 3);
            Kit.due("talk stays", x.talk(0, 2), 2);
            Kit.due("booked stays", x.booked(2), 2);
            x.restore(0);
        }
    }
}
