import java.util.Arrays;

/** Edges of what is so in a TOWN and of acts: HEARS, TELLS, DAYS, STRIKE, undo, BOOKS lived, SENTENCES said, images. */
final class EdgesOfLife {
    /** Numbers that are none of a PERSON, a STORY, a what, a place or a count of hours in any TOWN. */
    static final int[] STRANGE = {-1, -2, 31, 32, 33, 64, 1000, -1000, Integer.MIN_VALUE, Integer.MAX_VALUE};
    private static final String TWO = "person a 50 24 0;person b 50 24 0;";

    private EdgesOfLife() {
    }

    static void all() {
        person();
        owes();
        notes();
        story();
        now();
        whyNot();
        noSuchHearing();
        hear();
        hearer();
        tell();
        tellings();
        days();
        ruin();
        needs();
        strike();
        struck();
        undo();
        undone();
        next();
        most();
        book();
        booked();
        bookLives();
        sentence();
        measures();
        joins();
        said();
        image();
        restore();
        newTown();
    }

    static void persons(String what, EarTown x, int p, int... due) {
        for (int i = 0; i < due.length; i++) {
            Kit.due(what + ", person(" + p + ", " + i + ")", x.person(p, i), due[i]);
        }
    }

    static void nows(String what, EarTown x, int... due) {
        for (int i = 0; i < due.length; i++) {
            Kit.due(what + ", now(" + i + ")", x.now(i), due[i]);
        }
    }

    private static void person() {
        Doc.holds(6, "Of a PERSON: 0 NEED now, 1 EAR left today, 2 EAR as told, 3 GROWS, 4 free, 5 false, 6 RUINED (1, 0), "
                + "7 hours that it heard, 8 that it was heard, 9 all that it owes, 10 all that is owed to it.");
        EarTown x = Kit.of("person a 20 9 3;person b 30 11 4;person c 40 13 5;owes a c 6;owes c b 7;free c;false b;");
        persons("told", x, 0, 20, 9, 9, 3, 0, 0, 0, 0, 0, 6, 0);
        persons("told", x, 1, 30, 11, 11, 4, 0, 1, 0, 0, 0, 0, 7);
        persons("told", x, 2, 40, 13, 13, 5, 1, 0, 0, 0, 0, 7, 6);
        x.hear(0, 1, 5);
        x.hear(1, 0, 2);
        x.hear(2, 1, 1);
        persons("heard", x, 0, 20, 4, 9, 3, 0, 0, 0, 5, 2, 6, 3);
        persons("heard", x, 1, 24, 9, 11, 4, 0, 1, 0, 2, 6, 3, 6);
        persons("heard", x, 2, 40, 12, 13, 5, 1, 0, 0, 1, 0, 6, 6);
        x.days(1);
        persons("a DAY on", x, 1, 28, 11, 11, 4, 0, 1, 0, 2, 6, 3, 6);
        EarTown y = Kit.of("person a 1 1 0;person b 1 0 0;person c 1 0 0;owes b a 1;owes c a 1;free c;");
        y.days(1);
        Kit.due("RUINED of a", y.person(0, 6), 0);
        Kit.due("RUINED of b", y.person(1, 6), 1);
        Kit.due("RUINED of one that is free", y.person(2, 6), 1);

        Doc.holds(6, "NoSuchElementException: no such ones.");
        for (int p : STRANGE) {
            Kit.dueThrow("person(" + p + ", 0)", () -> x.person(p, 0));
            Kit.dueThrow("person(0, " + p + ")", () -> x.person(0, p));
        }
        Kit.dueThrow("person(3, 0) of three", () -> x.person(3, 0));
        Kit.dueThrow("person(8, 0)", () -> x.person(8, 0));
        Kit.dueThrow("person(2, 11)", () -> x.person(2, 11));
        Kit.dueThrow("person(0, 0) of an empty TOWN", () -> new EarTown().person(0, 0));
    }

    private static void owes() {
        Doc.holds(7, "Hours that PERSON a owes PERSON b;");
        EarTown x = Kit.of(TWO + "person c 1 1 1;owes a b 3;owes c a 99;");
        Kit.due("owes(0, 1)", x.owes(0, 1), 3);
        Kit.due("owes(1, 0)", x.owes(1, 0), 0);
        Kit.due("owes(2, 0)", x.owes(2, 0), 99);
        Kit.due("owes(0, 2)", x.owes(0, 2), 0);
        Kit.due("owes(1, 2)", x.owes(1, 2), 0);
        Kit.due("to itself", x.owes(0, 0), 0);

        Doc.holds(7, "NONE: no such ones.");
        for (int p : STRANGE) {
            Kit.due("owes(" + p + ", 0)", x.owes(p, 0), -1);
            Kit.due("owes(0, " + p + ")", x.owes(0, p), -1);
        }
        Kit.due("owes(3, 0) of three", x.owes(3, 0), -1);
        Kit.due("owes(0, 3) of three", x.owes(0, 3), -1);
        Kit.due("owes(0, 8)", x.owes(0, 8), -1);
        Kit.due("owes(0, 0) of an empty TOWN", new EarTown().owes(0, 0), -1);
    }

    private static void owing(String what, EarTown x, int ab, int ba) {
        Kit.due(what + ", owes(0, 1)", x.owes(0, 1), ab);
        Kit.due(what + ", owes(1, 0)", x.owes(1, 0), ba);
    }

    private static void notes() {
        Doc.holds(11, "NOTES: one owes another one hours; never both of two.");
        EarTown x = Kit.of(TWO + "owes a b 5;story s a 3 0;");
        owing("told", x, 5, 0);
        x.hear(0, 1, 4);
        owing("one fewer is come to be owed", x, 1, 0);
        x.hear(0, 1, 1);
        owing("just so many are", x, 0, 0);
        x.hear(0, 1, 2);
        owing("the other one owes", x, 0, 2);
        x.hear(1, 0, 9);
        owing("the first one again", x, 7, 0);

        Doc.holds(12, "Who comes to owe n hours to another one: what the other one owes it is less first, the rest is its NOTE.");
        Kit.due("a story that is worth 3", x.tell(0, 1, 0), 3);
        owing("is less first", x, 4, 0);
        EarTown y = Kit.of(TWO + "owes a b 5;story s a 8 0;story t a 5 0;");
        y.tell(0, 1, 0);
        owing("the rest", y, 0, 3);
        y.undo();
        y.tell(0, 1, 1);
        owing("no rest", y, 0, 0);
        EarTown z = Kit.of(TWO + "person c 50 24 0;owes a c 9;owes c b 9;");
        z.hear(0, 1, 4);
        owing("what is owed to others stays", z, 0, 4);
        Kit.due("owes(0, 2)", z.owes(0, 2), 9);
        Kit.due("owes(2, 1)", z.owes(2, 1), 9);
        z.hear(0, 1, 4);
        owing("more of the same way", z, 0, 8);
    }

    private static void story() {
        Doc.holds(8, "Of a STORY: 0 whose it is, 1 its worth now, 2 how often it was told, 3 who KNOWS it, as bits.");
        EarTown x = Kit.of(TWO + "person c 1 1 1;person d 1 1 1;story s d 20 7;story t b 0 0;");
        int[][] due = {{3, 20, 0, 8}, {1, 0, 0, 2}, {3, 13, 1, 9}, {3, 6, 2, 11}, {3, 0, 3, 15}};
        stories("told", x, 0, due[0]);
        stories("told", x, 1, due[1]);
        x.tell(3, 0, 0);
        stories("told once", x, 0, due[2]);
        x.tell(0, 1, 0);
        stories("told twice", x, 0, due[3]);
        x.tell(1, 2, 0);
        stories("told three times", x, 0, due[4]);
        stories("the other one", x, 1, due[1]);

        Doc.holds(8, "NoSuchElementException: no such ones.");
        for (int s : STRANGE) {
            Kit.dueThrow("story(" + s + ", 0)", () -> x.story(s, 0));
            Kit.dueThrow("story(0, " + s + ")", () -> x.story(0, s));
        }
        Kit.dueThrow("story(2, 0) of two", () -> x.story(2, 0));
        Kit.dueThrow("story(8, 0)", () -> x.story(8, 0));
        Kit.dueThrow("story(1, 4)", () -> x.story(1, 4));
        Kit.dueThrow("story(0, 0) of none", () -> Kit.of(TWO).story(0, 0));
    }

    private static void stories(String what, EarTown x, int s, int... due) {
        for (int i = 0; i < due.length; i++) {
            Kit.due(what + ", story(" + s + ", " + i + ")", x.story(s, i), due[i]);
        }
    }

    private static void now() {
        Doc.holds(9, "0 the DAY, 1 all hours heard, 2 all hours owed, 3 COUNTERFEIT hours, 4 RUINED PERSONS, 5 all NEEDS, "
                + "6 hours struck out so far (each NOTE counted), 7 how often somebody HEARD somebody.");
        EarTown x = Kit.of("person a 20 9 1;person b 30 9 2;person c 40 0 3;owes a b 2;owes b c 3;owes c a 4;false b;");
        nows("told", x, 0, 0, 9, 0, 0, 90, 0, 0);
        x.hear(0, 1, 5);
        nows("heard", x, 0, 5, 2 - 2 + 3 + 3 + 4, 0, 0, 85, 0, 1);
        x.hear(1, 2, 4);
        nows("by one that is false", x, 0, 9, 3 + 4 + 1 - 0, 4, 0, 85, 0, 2);
        x.days(7);
        nows("seven DAYS on", x, 7, 9, 8, 4, 1, 85 + 42, 0, 2);
        Kit.book(x, "a hears b 1;day 1;", 1);
        nows("a BOOK on", x, 8, 10, 9, 4, 1, 132, 0, 3);
        EarTown y = Kit.of("person a 1 1 0;person b 1 1 0;person c 1 1 0;owes a b 2;owes b c 3;owes c a 4;");
        y.strike();
        nows("struck", y, 0, 0, 3, 0, 0, 3, 6, 0);
        Kit.book(y, "strike;", 1);
        Kit.due("a strike of no RING", y.now(6), 6);
        EarTown z = Kit.of("person a 9 9 0;person b 0 9 0;");
        z.drawn(9, 9, 1);
        Kit.due("hours by draws", z.now(1), z.person(0, 8));
        Kit.due("how often by draws", z.now(7) > 0, true);

        Doc.holds(9, "NONE for another what.");
        for (int what : STRANGE) {
            Kit.due("now(" + what + ")", x.now(what), -1);
        }
        Kit.due("now(8)", x.now(8), -1);
    }

    /** b has more than one reason not to be heard; a RUINED one hears all the same. */
    private static void whyNot() {
        Doc.holds(10, "One HEARS another one for n hours; why not, the least: 1 it is itself; 2 its EAR has fewer left today;");
        EarTown x = Kit.of("person a 0 5 0;person b 3 1 0;owes b a 11;");
        x.days(1);
        Kit.due("b is RUINED", x.person(1, 6), 1);
        Kit.due("itself, no NEED", x.why(0, 0, 1), 1);
        Kit.due("itself, no EAR, no NEED", x.why(0, 0, 24), 1);
        Kit.due("itself, RUINED", x.why(1, 1, 1), 1);
        Kit.due("EAR 5, NEED 3, RUINED, 6 hours", x.why(0, 1, 6), 2);
        Kit.due("24 hours", x.why(0, 1, 24), 2);
        EarTown y = Kit.of("person a 9 5 0;person b 9 5 0;");
        Kit.due("EAR 5, 6 hours", y.why(0, 1, 6), 2);
        Kit.due("EAR 5, 5 hours", y.why(0, 1, 5), 0);
        y.hear(0, 1, 2);
        Kit.due("EAR left 3, 4 hours", y.why(0, 1, 4), 2);
        Kit.due("EAR left 3, 3 hours", y.why(0, 1, 3), 0);
        y.hear(0, 1, 3);
        Kit.due("EAR left 0", y.why(0, 1, 1), 2);
        y.days(1);
        Kit.due("on another DAY", y.why(0, 1, 4), 0);

        Doc.holds(10, "3 the other one's NEED is less; 4 the other one is RUINED, and not free.");
        Kit.due("NEED 3, RUINED, 5 hours", x.why(0, 1, 5), 3);
        Kit.due("NEED 3, RUINED, 4 hours", x.why(0, 1, 4), 3);
        Kit.due("NEED 3, RUINED, 3 hours", x.why(0, 1, 3), 4);
        Kit.due("NEED 3, RUINED, 1 hour", x.why(0, 1, 1), 4);
        Kit.due("a RUINED one hears", x.why(1, 0, 1), 3);
        Kit.due("NEED 4, 5 hours", y.why(0, 1, 5), 3);
        Kit.due("NEED 4, 4 hours", y.why(0, 1, 4), 0);
        EarTown z = Kit.of("person a 1 5 0;person b 3 1 0;owes b a 11;free b;");
        z.days(1);
        Kit.due("RUINED, free, 4 hours", z.why(0, 1, 4), 3);
        Kit.due("RUINED, free, 3 hours", z.why(0, 1, 3), 0);
        Kit.due("a RUINED one hears", z.why(1, 0, 1), 0);
        EarTown w = Kit.of("person a 1 5 0;person b 3 1 0;owes b a 11;free a;");
        Kit.due("not RUINED yet", w.why(0, 1, 3), 0);
        w.days(1);
        Kit.due("RUINED, the hearer free", w.why(0, 1, 3), 4);

        Doc.holds(10, "Why PERSON a can't HEAR PERSON b for n (1 to 24) hours (0: it can);");
        EarTown v = Kit.of("person a 99 24 0;person b 99 24 0;");
        Kit.due("24 hours", v.why(0, 1, 24), 0);
        Kit.due("1 hour", v.why(0, 1, 1), 0);
        Kit.due("nobody HEARD anybody", v.now(7), 0);
        Kit.due("nothing can be undone", v.undo(), -1);
    }

    private static void noSuchHearing() {
        Doc.holds(10, "NONE: no such ones.");
        EarTown x = Kit.of("person a 99 24 0;person b 99 24 0;");
        for (int n : STRANGE) {
            Kit.due("why(" + n + ", 0, 1)", x.why(n, 0, 1), -1);
            Kit.due("why(0, " + n + ", 1)", x.why(0, n, 1), -1);
            Kit.due("why(0, 1, " + n + ")", x.why(0, 1, n), -1);
        }
        Kit.due("why(2, 0, 1) of two", x.why(2, 0, 1), -1);
        Kit.due("why(0, 2, 1) of two", x.why(0, 2, 1), -1);
        Kit.due("why(0, 1, 0)", x.why(0, 1, 0), -1);
        Kit.due("why(0, 1, 25)", x.why(0, 1, 25), -1);
        Kit.due("why(0, 0, 25)", x.why(0, 0, 25), -1);
        Kit.due("why(2, 2, 1)", x.why(2, 2, 1), -1);

        Doc.holds(11, "NONE: no such ones.");
        for (int n : STRANGE) {
            Kit.due("hear(" + n + ", 0, 1)", x.hear(n, 0, 1), -1);
            Kit.due("hear(0, " + n + ", 1)", x.hear(0, n, 1), -1);
            Kit.due("hear(0, 1, " + n + ")", x.hear(0, 1, n), -1);
        }
        Kit.due("hear(2, 0, 1) of two", x.hear(2, 0, 1), -1);
        Kit.due("hear(0, 2, 1) of two", x.hear(0, 2, 1), -1);
        Kit.due("hear(0, 1, 0)", x.hear(0, 1, 0), -1);
        Kit.due("hear(0, 1, 25)", x.hear(0, 1, 25), -1);
        Kit.due("nobody HEARD anybody", x.now(7), 0);
        Kit.due("nothing can be undone", x.undo(), -1);
    }

    private static void hear() {
        Doc.holds(11, "PERSON a HEARS PERSON b for n hours: 0, or why not;");
        EarTown x = Kit.of("person a 9 5 0;person b 3 1 0;owes b a 11;");
        Kit.due("itself", x.hear(0, 0, 1), 1);
        Kit.due("EAR", x.hear(0, 1, 6), 2);
        Kit.due("NEED", x.hear(0, 1, 4), 3);
        x.days(1);
        Kit.due("RUINED", x.hear(0, 1, 3), 4);
        Kit.due("nobody HEARD anybody", x.now(7), 0);
        Kit.due("a RUINED one HEARS", x.hear(1, 0, 1), 0);
        Kit.due("somebody HEARD somebody", x.now(7), 1);

        Doc.holds(11, "Else: its EAR has n fewer today;");
        EarTown y = Kit.of("person a 99 24 1;person b 99 24 1;person c 9 9 1;");
        Kit.due("24 hours", y.hear(0, 1, 24), 0);
        Kit.due("no EAR left", y.person(0, 1), 0);
        Kit.due("EAR as told", y.person(0, 2), 24);
        Kit.due("the EAR of who is heard", y.person(1, 1), 24);
        Kit.due("an hour more", y.hear(0, 1, 1), 2);
        y.days(1);
        Kit.due("today alone", y.person(0, 1), 24);

        Doc.holds(11, "the other one's NEED is n less (not if the hearer is false: then n more hours are COUNTERFEIT);");
        Kit.due("NEED, grown", y.person(1, 0), 76);
        Kit.due("the hearer's NEED", y.person(0, 0), 100);
        Kit.due("none is COUNTERFEIT", y.now(3), 0);
        EarTown z = Kit.of("person a 9 9 0;person b 4 9 0;false a;");
        Kit.due("more than NEED, by one that is false", z.hear(0, 1, 5), 3);
        Kit.due("all NEED", z.hear(0, 1, 4), 0);
        Kit.due("again", z.hear(0, 1, 4), 0);
        Kit.due("NEED stays", z.person(1, 0), 4);
        Kit.due("COUNTERFEIT", z.now(3), 8);
        Kit.due("EAR of one that is false", z.person(0, 1), 1);
        Kit.due("it is owed all the same", z.owes(1, 0), 8);
        Kit.due("hours heard", z.person(0, 7) + z.person(1, 8), 16);
        Kit.due("one that is false is heard", z.hear(1, 0, 9), 0);
        Kit.due("its NEED is less", z.person(0, 0), 0);
        Kit.due("COUNTERFEIT still", z.now(3), 8);
    }

    private static void hearer() {
        Doc.holds(11, "the other one comes to owe it n less 'gift' hours (0 at least), if it is not free.");
        EarTown x = Kit.of(TWO + "owes a b 2;gift 3;");
        x.hear(0, 1, 2);
        owing("fewer than the gift", x, 2, 0);
        x.hear(0, 1, 3);
        owing("just the gift", x, 2, 0);
        x.hear(0, 1, 4);
        owing("one more than the gift", x, 1, 0);
        x.hear(0, 1, 6);
        owing("three more", x, 0, 2);
        EarTown y = Kit.of(TWO + "owes a b 2;free b;");
        y.hear(0, 1, 9);
        owing("one that is free", y, 2, 0);
        y.hear(1, 0, 9);
        owing("heard by one that is free", y, 11, 0);
        EarTown z = Kit.of(TWO + "gift 9;");
        z.hear(0, 1, 9);
        owing("9 hours of a gift of 9", z, 0, 0);
        z.hear(0, 1, 10);
        owing("10 hours of a gift of 9", z, 0, 1);
        EarTown w = Kit.of(TWO + "gift 0;");
        w.hear(0, 1, 1);
        owing("no gift", w, 0, 1);
    }

    private static void tell() {
        Doc.holds(12, "One TELLS another one a STORY; why not: 1 itself; 2 it does not KNOW it (whose it is KNOWS it from the beginning); 3 the other one KNOWS it.");
        EarTown x = Kit.of(TWO + "person c 1 0 0;story s a 5 1;story t c 5 1;");
        Kit.due("itself", x.tell(0, 0, 0), -3);
        Kit.due("itself, not KNOWING it", x.tell(1, 1, 0), -3);
        Kit.due("it does not KNOW it", x.tell(1, 2, 0), -4);
        Kit.due("it does not KNOW it, the other one does", x.tell(1, 0, 0), -4);
        Kit.due("whose it is", x.tell(0, 1, 0), 5);
        Kit.due("the other one KNOWS it", x.tell(0, 1, 0), -5);
        Kit.due("who was told", x.tell(1, 0, 0), -5);
        Kit.due("who was told tells", x.tell(1, 2, 0), 4);
        Kit.due("each STORY by itself", x.tell(0, 1, 1), -4);

        Doc.holds(12, "PERSON a TELLS PERSON b a STORY: the hours that b comes to owe; -2 less why not;");
        Kit.due("without an EAR, to one that owes it", x.tell(2, 1, 1), 5);
        Kit.due("owes(1, 2)", x.owes(1, 2), 1);
        EarTown y = Kit.of(TWO + "owes a b 9;story s a 5 1;");
        Kit.due("all of it less first", y.tell(0, 1, 0), 5);
        owing("less first", y, 4, 0);

        Doc.holds(12, "NONE: no such ones.");
        for (int n : STRANGE) {
            Kit.due("tell(" + n + ", 0, 0)", x.tell(n, 0, 0), -1);
            Kit.due("tell(0, " + n + ", 0)", x.tell(0, n, 0), -1);
            Kit.due("tell(0, 1, " + n + ")", x.tell(0, 1, n), -1);
        }
        Kit.due("tell(3, 0, 0) of three", x.tell(3, 0, 0), -1);
        Kit.due("tell(0, 3, 0) of three", x.tell(0, 3, 0), -1);
        Kit.due("tell(0, 1, 2) of two", x.tell(0, 1, 2), -1);
        Kit.due("tell(0, 0, 2) of two", x.tell(0, 0, 2), -1);
        Kit.due("tell(0, 1, 0) without STORIES", Kit.of(TWO).tell(0, 1, 0), -1);
    }

    private static void tellings() {
        Doc.holds(12, "Else the other one KNOWS it, and comes to owe it the STORY's worth now: WORTH less FALLS for each time that it was told (0 at least).");
        EarTown x = Kit.of(TWO + "person c 1 0 0;person d 1 0 0;person e 1 0 0;story s a 6 3;story t a 4 3;story u a 0 0;story v a 7 0;");
        int[] s = {6, 3, 0, 0};
        int[] t = {4, 1, 0, 0};
        for (int p = 1; p < 5; p++) {
            Kit.due("WORTH 6, FALLS 3, to " + p, x.tell(0, p, 0), s[p - 1]);
            Kit.due("WORTH 4, FALLS 3, to " + p, x.tell(0, p, 1), t[p - 1]);
            Kit.due("WORTH 0 to " + p, x.tell(0, p, 2), 0);
            Kit.due("FALLS 0 to " + p, x.tell(0, p, 3), 7);
            Kit.due("what " + p + " owes", x.owes(p, 0), s[p - 1] + t[p - 1] + 7);
            for (int story = 0; story < 4; story++) {
                Kit.due("who KNOWS " + story, x.story(story, 3), (2 << p) - 1);
                Kit.due("how often " + story + " was told", x.story(story, 2), p);
            }
        }
        Kit.due("worth at the end", x.story(1, 1), 0);
        EarTown y = Kit.of("person a 0 0 0;person b 0 0 0;person c 0 0 0;story s a 5 1;owes a c 1;free b;false a;gift 9;");
        y.days(1);
        Kit.due("a RUINED and false one TELLS one that is free, gift or not", y.tell(0, 1, 0), 5);
        Kit.due("its NOTE", y.owes(1, 0), 5);
        Kit.due("to one that it owes", y.tell(1, 2, 0), 4);
        Kit.due("its NOTE", y.owes(2, 1), 4);
        y.days(1);
        Kit.due("RUINED ones are told", y.person(2, 6), 1);
        Kit.due("no hours heard", y.now(1) + y.now(3) + y.now(7), 0);
    }

    private static void days() {
        Doc.holds(13, "n (1 to 30) DAYS go: the DAY then;");
        EarTown x = Kit.of(TWO);
        Kit.due("days(1)", x.days(1), 1);
        Kit.due("days(30)", x.days(30), 31);
        Kit.due("days(2)", x.days(2), 33);
        Kit.due("now(0)", x.now(0), 33);

        Doc.holds(13, "NONE: not as told, it would be above 9999.");
        for (int n : STRANGE) {
            Kit.due("days(" + n + ")", x.days(n), -1);
        }
        Kit.due("days(0)", x.days(0), -1);
        Kit.due("the DAY stays", x.now(0), 33);
        EarTown y = lateTown(9970);
        Kit.due("days(30) to 10000", y.days(30), -1);
        Kit.due("the DAY stays", y.now(0), 9970);
        Kit.due("days(29) to 9999", y.days(29), 9999);
        Kit.due("days(1) to 10000", y.days(1), -1);
        Kit.due("days(30) to 10029", y.days(30), -1);
        Kit.due("the DAY stays", y.now(0), 9999);
        Kit.due("undone", y.undo() >= 0, true);
        Kit.due("the DAY", y.now(0), 9970);
        Kit.due("days(28)", y.days(28), 9998);
        Kit.due("days(1)", y.days(1), 9999);
    }

    /** A TOWN of one PERSON, so many DAYS (a number that tens divide) behind its beginning. */
    static EarTown lateTown(int day) {
        EarTown x = Kit.of("person a 5 5 1;");
        for (int i = 0; i < day / 60; i++) {
            x.drawn(60, 1, 1);
        }
        for (int i = 0; i < day % 60 / 10; i++) {
            x.days(10);
        }
        return x;
    }

    private static void ruin() {
        Doc.holds(13, "A DAY: who owes more than 'ruin' times its EAR as told is RUINED for good;");
        EarTown x = Kit.of("person a 0 2 0;person b 9 2 0;person c 9 0 0;person d 9 0 0;person e 0 1 0;"
                + "owes a e 6;owes b e 7;owes d e 1;ruin 3;");
        x.hear(0, 1, 1);
        x.days(1);
        Kit.due("owes 3 times its EAR", x.person(0, 6), 0);
        Kit.due("owes 3 times its EAR and 1 hour", x.person(1, 6), 1);
        Kit.due("owes nothing, has no EAR", x.person(2, 6), 0);
        Kit.due("owes 1 hour, has no EAR", x.person(3, 6), 1);
        Kit.due("is owed much", x.person(4, 6), 0);
        EarTown y = Kit.of("person a 5 1 0;person b 3 4 0;person c 9 9 0;owes a b 11;owes c b 45;owes c a 46;story s a 11 0;");
        y.days(1);
        Kit.due("RUINED, 10 times without ruin", y.person(0, 6), 1);
        Kit.due("by all that it owes", y.person(2, 6), 1);
        y.tell(0, 1, 0);
        Kit.due("it owes no more", y.person(0, 9), 0);
        y.days(30);
        Kit.due("RUINED for good", y.person(0, 6), 1);
        EarTown z = Kit.of("person a 9 2 0;person b 9 2 0;owes a b 20;");
        z.hear(0, 1, 2);
        z.hear(1, 0, 2);
        Kit.due("no EAR left", z.person(0, 1), 0);
        z.days(1);
        Kit.due("EAR as told counts, 10 times it is owed", z.person(0, 6), 0);
        z.hear(1, 0, 1);
        Kit.due("not RUINED till the DAY's end", z.person(0, 6), 0);
        z.days(1);
        Kit.due("an hour more than 10 times", z.person(0, 6), 1);
        EarTown w = Kit.of("person a 9 1 0;person b 9 1 0;owes a b 99;ruin 99;");
        w.days(1);
        Kit.due("99 times 1", w.person(0, 6), 0);
        w.hear(1, 0, 1);
        w.days(1);
        Kit.due("100 of 99 times 1", w.person(0, 6), 1);
    }

    private static void needs() {
        Doc.holds(13, "all EARS are whole; all NEEDS grow (999 at most).");
        EarTown x = Kit.of("person a 99 3 9;person b 98 4 9;person c 7 5 0;person d 0 0 1;");
        x.hear(1, 0, 4);
        x.hear(2, 0, 5);
        x.hear(0, 2, 2);
        x.undo();
        x.undo();
        x.undo();
        x.hear(2, 1, 1);
        x.days(1);
        for (int p = 0; p < 4; p++) {
            Kit.due("EAR of " + p, x.person(p, 1), x.person(p, 2));
        }
        Kit.due("NEED of a", x.person(0, 0), 108);
        Kit.due("NEED of b", x.person(1, 0), 106);
        Kit.due("NEED of c", x.person(2, 0), 7);
        Kit.due("NEED of d", x.person(3, 0), 1);
        x.days(30);
        x.days(30);
        x.days(30);
        x.days(8);
        Kit.due("99 DAYS", x.person(0, 0), 990);
        x.days(1);
        Kit.due("just 999", x.person(0, 0), 999);
        Kit.due("b", x.person(1, 0), 97 + 900);
        x.days(1);
        Kit.due("999 still", x.person(0, 0), 999);
        Kit.due("b would have 1006", x.person(1, 0), 999);
        Kit.due("d", x.person(3, 0), 101);
        Kit.due("all NEEDS", x.now(5), 999 + 999 + 7 + 101);
        x.hear(2, 0, 5);
        Kit.due("less, heard", x.person(0, 0), 994);
        x.days(1);
        Kit.due("999 again", x.person(0, 0), 999);
    }

    private static void strike() {
        Doc.holds(14, "STRIKE: how many RINGS were struck out.");
        EarTown x = Kit.of("person a 1 1 1;person b 1 1 1;person c 1 1 1;person d 1 1 1;person e 1 1 1;person f 1 1 1;"
                + "owes a b 2;owes b c 3;owes c a 4;owes d e 5;owes e f 5;owes f d 5;");
        Kit.due("two RINGS", x.strike(), 2);
        int[] left = {x.owes(0, 1), x.owes(1, 2), x.owes(2, 0), x.owes(3, 4), x.owes(4, 5), x.owes(5, 3)};
        int[] due = {0, 1, 2, 0, 0, 0};
        for (int i = 0; i < 6; i++) {
            Kit.due("NOTE " + i, left[i], due[i]);
        }
        Kit.due("no RING", x.strike(), 0);
        Kit.due("of two PERSONS there is none", Kit.of(TWO + "owes a b 5;").strike(), 0);

        Doc.holds(14, "STRIKE: as long as there is a RING (one owes another one, .., the last the first):");
        EarTown y = Kit.of("person a 1 1 1;person b 1 1 1;person c 1 1 1;person d 1 1 1;"
                + "owes a b 9;owes b c 4;owes c a 4;owes b d 5;owes d a 5;");
        Kit.due("one NOTE in two RINGS", y.strike(), 2);
        Kit.due("all struck out", y.now(2), 0);
        EarTown z = Kit.of("person a 1 1 1;person b 1 1 1;person c 1 1 1;owes a b 9;owes b c 4;owes a c 4;");
        Kit.due("a row that does not end at its first", z.strike(), 0);
        Kit.due("all stays", z.now(2), 17);

        Doc.holds(14, "of the shortest, the one whose row of PERSONS, told from its least one on in the way in which they owe, is first: all its NOTES are less by the least of them.");
        EarTown w = Kit.of("person a 1 1 1;person b 1 1 1;person c 1 1 1;person d 1 1 1;person e 1 1 1;"
                + "owes a b 9;owes b c 5;owes c a 2;owes c d 4;owes d a 3;owes b e 8;owes e a 8;");
        Kit.due("a b c, then a b e; none is left for a b c d", w.strike(), 2);
        Kit.due("a b", w.owes(0, 1), 0);
        Kit.due("b c", w.owes(1, 2), 3);
        Kit.due("c a", w.owes(2, 0), 0);
        Kit.due("c d", w.owes(2, 3), 4);
        Kit.due("d a", w.owes(3, 0), 3);
        Kit.due("b e", w.owes(1, 4), 1);
        Kit.due("e a", w.owes(4, 0), 1);
        EarTown v = Kit.of("person a 1 1 1;person b 1 1 1;person c 1 1 1;person d 1 1 1;"
                + "owes b c 7;owes c d 7;owes d b 2;owes d a 9;owes a b 9;");
        Kit.due("b c d, then a b c d", v.strike(), 2);
        Kit.due("hours", v.struck(), 2 * 3 + 5 * 4);
        EarTown u = Kit.of("person a 1 1 1;person b 1 1 1;person c 1 1 1;person d 1 1 1;"
                + "owes b a 5;owes a c 5;owes c b 5;owes d a 5;owes c d 5;");
        Kit.due("a c b ahead of a c d", u.strike(), 1);
        Kit.due("c b", u.owes(2, 1), 0);
        Kit.due("c d", u.owes(2, 3), 5);
        leasts();
    }

    /** The least NOTE in each place of a RING; RINGS of all of a TOWN's NOTES. */
    private static void leasts() {
        for (int least = 0; least < 8; least++) {
            StringBuilder text = new StringBuilder(eightPersons());
            for (int i = 0; i < 8; i++) {
                text.append("owes ").append((char) ('a' + i)).append(' ').append((char) ('a' + (i + 1) % 8));
                text.append(' ').append(i == least ? 2 : 9).append(';');
            }
            EarTown x = Kit.of(text.toString());
            Kit.due("a RING of eight", x.strike(), 1);
            Kit.due("eight NOTES by 2", x.struck(), 16);
            for (int i = 0; i < 8; i++) {
                Kit.due("NOTE " + i, x.owes(i, (i + 1) % 8), i == least ? 0 : 7);
            }
        }
        EarTown y = Kit.of(eightPersons() + "owes b a 53;owes a c 17;owes b c 17;owes a d 36;owes d b 87;owes c d 81;owes e a 26;owes e b 44;"
                + "owes e c 25;owes d e 2;owes a f 6;owes b f 64;owes c f 90;owes f d 28;owes f e 32;owes g a 87;owes g b 38;owes c g 9;"
                + "owes d g 62;owes g e 93;owes f g 91;owes a h 77;owes b h 50;owes h c 54;owes d h 23;owes e h 60;owes h f 49;owes h g 95;");
        Kit.due("RINGS of 28 NOTES", y.strike(), 20);
        Kit.due("hours of them", y.struck(), 1236);
        Kit.due("no RING is left", y.ring(), 0);
    }

    private static void struck() {
        Doc.holds(15, "Hours by which NOTES were less by the latest strike() (each NOTE counted);");
        EarTown x = Kit.of("person a 1 1 1;person b 1 1 1;person c 1 1 1;owes a b 2;owes b c 3;owes c a 4;");
        x.strike();
        Kit.due("three NOTES by 2", x.struck(), 6);
        x.undo();
        Kit.due("undo() leaves it", x.struck(), 6);
        Kit.book(x, "strike;", 1);
        Kit.due("a BOOK leaves it", x.struck(), 6);
        x.strike();
        Kit.due("a strike() of no RING", x.struck(), 0);

        Doc.holds(15, "NONE ahead of any.");
        EarTown y = Kit.of("person a 1 1 1;person b 1 1 1;person c 1 1 1;owes a b 2;owes b c 3;owes c a 4;");
        Kit.due("ahead of any", y.struck(), -1);
        y.ring();
        Kit.book(y, "strike;", 1);
        Kit.due("ahead of any, a BOOK lived", y.struck(), -1);
        y.strike();
        Kit.due("behind one", y.struck(), 0);
    }

    private static void undo() {
        Doc.holds(16, "The latest of hear(), tell(), days(), strike() above 0, drawn(), a BOOK of which a LINE was lived, that was done is undone:");
        EarTown x = Kit.of("person a 50 24 0;person b 50 24 0;person c 1 1 1;person d 1 1 1;owes a c 1;owes c d 1;owes d a 1;story s a 5 1;");
        x.hear(0, 1, 3);
        x.tell(0, 1, 0);
        x.days(2);
        x.strike();
        x.drawn(1, 1, 1);
        Kit.book(x, "day 1;b hears b 1;", 1);
        Kit.due("the DAY", x.now(0), 4);
        Kit.due("the BOOK", x.undo(), 5);
        Kit.due("the DAY", x.now(0), 3);
        Kit.due("the draw", x.undo(), 4);
        Kit.due("the DAY", x.now(0), 2);
        Kit.due("struck out", x.now(6), 3);
        Kit.due("the strike", x.undo(), 3);
        Kit.due("struck out", x.now(6), 0);
        Kit.due("the DAYS", x.undo(), 2);
        Kit.due("the DAY", x.now(0), 0);
        Kit.due("the EAR that was left", x.person(0, 1), 21);
        Kit.due("the telling", x.undo(), 1);
        Kit.due("who KNOWS it", x.story(0, 3), 1);
        Kit.due("the hearing", x.undo(), 0);
        Kit.due("the EAR", x.person(0, 1), 24);
        Kit.due("none", x.undo(), -1);
        noActs();
        roundTrips();
    }

    private interface Act {
        void on(EarTown x);
    }

    /** All that an act changes is as it was, undone. */
    private static void roundTrips() {
        roundTrip("a HEARS b", x -> x.hear(0, 1, 2));
        roundTrip("one that is false HEARS", x -> x.hear(3, 0, 1));
        roundTrip("a TELLS b", x -> x.tell(0, 1, 1));
        roundTrip("a DAY", x -> x.days(1));
        roundTrip("30 DAYS", x -> x.days(30));
        roundTrip("STRIKE", x -> x.strike());
        roundTrip("draws", x -> x.drawn(5, 9, 77));
        roundTrip("a BOOK", x -> Kit.book(x, "d hears a 1;a hears b 1;a tells d t;day 2;strike;a hears a 1;", 1));
    }

    private static EarTown manyTold() {
        EarTown x = Kit.of("person a 20 9 1;person b 30 8 2;person c 10 0 2;person d 7 6 1;owes a b 3;owes b c 2;owes c a 4;"
                + "story s c 9 5;story t a 3 2;free c;false d;gift 1;ruin 2;");
        Kit.sentence(x, "need > 9 or knows t");
        x.hear(3, 1, 1);
        x.hear(0, 2, 1);
        x.tell(2, 3, 0);
        x.days(1);
        x.hear(1, 3, 3);
        return x;
    }

    private static void roundTrip(String what, Act act) {
        EarTown x = manyTold();
        long[] ahead = all(x);
        act.on(x);
        Kit.due(what + " changes something", Arrays.mismatch(ahead, all(x)) >= 0, true);
        Kit.due(what + " can be undone", x.undo() >= 0, true);
        Kit.due("the first answer not as ahead of " + what, Arrays.mismatch(ahead, all(x)), -1);
        x.image(0);
        act.on(x);
        x.restore(0);
        Kit.due("the first answer not as kept ahead of " + what, Arrays.mismatch(ahead, all(x)), -1);
    }

    private static void noActs() {
        EarTown x = Kit.of("person a 50 24 0;person b 50 24 0;story s a 5 1;");
        x.hear(0, 1, 25);
        x.hear(0, 0, 1);
        x.tell(1, 0, 0);
        x.days(31);
        x.drawn(61, 1, 1);
        x.strike();
        Kit.book(x, "strike;day 1;a hears b 1;", 0);
        Kit.book(x, "a hears a 1;", 1);
        Kit.book(x, "", 1);
        Kit.book(x, "day 1;day", 1);
        x.ring();
        x.hour();
        x.prices(1);
        x.odds(0, 3, 1);
        Kit.sentence(x, "free");
        x.image(0);
        Kit.due("none of these was done, or is an act", x.undo(), -1);
        Kit.book(x, "strike;", 1);
        Kit.due("a LINE that was lived and changed nothing", x.undo(), 0);
        EarTown y = Kit.of("person a 0 0 0;");
        y.drawn(1, 1, 1);
        Kit.due("a draw of no talk", y.undo(), 0);
        Kit.due("its DAY", y.now(0), 0);
    }

    private static void undone() {
        Doc.holds(16, "how many more can be (8 at most are kept);");
        for (int acts = 0; acts <= 20; acts++) {
            EarTown x = Kit.of("person a 1 1 1;");
            for (int i = 0; i < acts; i++) {
                x.days(1);
            }
            int can = Math.min(8, acts);
            for (int i = 1; i <= can; i++) {
                Kit.due("undo() " + i + " of " + acts + " acts", x.undo(), can - i);
                Kit.due("the DAY behind it", x.now(0), acts - i);
            }
            Kit.due("one more of " + acts + " acts", x.undo(), -1);
            Kit.due("the DAY behind it", x.now(0), acts - can);
        }
        EarTown y = Kit.of("person a 1 1 1;");
        for (int i = 0; i < 10; i++) {
            y.days(1);
        }
        y.undo();
        y.undo();
        y.undo();
        for (int i = 0; i < 5; i++) {
            y.days(10);
        }
        int[] days = {47, 37, 27, 17, 7, 6, 5, 4};
        for (int i = 0; i < 8; i++) {
            Kit.due("undo() " + i + " behind others", y.undo(), 7 - i);
            Kit.due("the DAY", y.now(0), days[i]);
        }

        Doc.holds(16, "NONE: none is.");
        Kit.due("behind all", y.undo(), -1);
        Kit.due("again", y.undo(), -1);
        Kit.due("the DAY stays", y.now(0), 4);
        Kit.due("ahead of all", new EarTown().undo(), -1);
        Kit.due("an act behind it", y.days(1), 5);
        Kit.due("is undone", y.undo(), 0);
    }

    private static void next() {
        Doc.holds(19, "Who would be RUINED first, if only DAYS went by (this one's end counted; of one DAY the first): the PERSON;");
        EarTown x = Kit.of("person a 5 1 0;person b 3 1 0;person c 1 1 1;owes a b 10;owes b c 11;owes c a 12;");
        Kit.due("of b and c", x.next(), 1);
        Kit.due("nothing went by", x.now(0) + x.now(4), 0);
        x.days(1);
        Kit.due("it was RUINED", x.person(1, 6), 1);
        Kit.due("one owing an hour, without an EAR", Kit.of("person a 5 1 0;person b 1 0 0;owes b a 1;ruin 99;").next(), 1);
        Kit.due("one that is free", Kit.of("person a 5 1 0;person b 1 0 0;owes b a 1;free b;").next(), 1);
        EarTown y = Kit.of("person a 5 1 0;person b 3 1 0;owes a b 9;");
        Kit.due("not yet", y.next(), -1);
        y.hear(1, 0, 1);
        Kit.due("10 times its EAR", y.next(), -1);
        y.days(1);
        y.hear(1, 0, 1);
        Kit.due("an hour more", y.next(), 0);

        Doc.holds(19, "NONE: nobody ever is. RUINED ones are left out.");
        Kit.due("b and c are RUINED, a owes just 10 times its EAR", x.next(), -1);
        Kit.due("an empty TOWN", new EarTown().next(), -1);
        Kit.due("eight who owe nothing", Kit.of(eightPersons()).next(), -1);
        Kit.due("eight who owe just 10 hours", Kit.of(eightPersons() + "owes h a 10;").next(), -1);
        Kit.due("the eighth owing 11", Kit.of(eightPersons() + "owes h a 11;").next(), 7);
        Kit.due("who owes nothing, without an EAR", Kit.of("person a 5 0 9;").next(), -1);
        EarTown z = Kit.of("person a 5 0 0;person b 3 0 0;person c 3 0 0;owes a c 1;story s c 1 0;");
        z.days(1);
        z.tell(2, 1, 0);
        Kit.due("the first one is RUINED", z.next(), 1);
    }

    private static void most() {
        Doc.holds(35, "To whom most is owed (0), who owes most (1), whose NEED is greatest (2), whose EAR left is (3) (of like ones the first);");
        EarTown x = Kit.of("person a 5 8 0;person b 6 7 0;person c 7 8 0;person d 7 1 0;owes a b 4;owes c b 3;owes c d 4;owes a d 3;");
        int[] due = {1, 0, 2, 0};
        for (int what = 0; what < 4; what++) {
            Kit.due("most(" + what + ")", x.most(what), due[what]);
        }
        x.hear(0, 2, 1);
        Kit.due("EAR left", x.most(3), 2);
        Kit.due("NEED now", x.most(2), 3);
        Kit.due("owed now", x.most(1), 2);
        EarTown y = Kit.of("person a 0 0 0;person b 0 0 0;");
        for (int what = 0; what < 4; what++) {
            Kit.due("nothing at all, most(" + what + ")", y.most(what), 0);
        }
        EarTown z = Kit.of("person a 0 0 0;person b 1 1 0;owes b a 1;");
        int[] later = {0, 1, 1, 1};
        for (int what = 0; what < 4; what++) {
            Kit.due("an hour more, most(" + what + ")", z.most(what), later[what]);
        }

        Doc.holds(35, "NONE: no PERSONS, another what.");
        for (int what = 0; what < 4; what++) {
            Kit.due("no PERSONS, most(" + what + ")", new EarTown().most(what), -1);
        }
        for (int what : STRANGE) {
            Kit.due("most(" + what + ")", x.most(what), -1);
        }
        Kit.due("most(4)", x.most(4), -1);
    }

    private static void book() {
        Doc.holds(36, "The tape is a BOOK: it is judged, all staying as it is (lives 0), or lived as far as it is not WRONG (1):");
        String town = "person a 50 24 1;person b 50 24 1;person c 1 1 1;owes a b 1;owes b c 1;owes c a 1;story s a 5 1;";
        String text = "a hears b 2;a tells c s;day 3;strike;b hears a 25;day 9;";
        EarTown x = Kit.of(town);
        Kit.due("a NUMBER too great", Kit.book(x, text, 0), -2 - 47);
        text = "a hears b 2;a tells c s;day 3;strike;b hears c 7;day 9;";
        Kit.due("judged", Kit.book(x, text, 0), 4);
        nows("judged", x, 0, 0, 3, 0, 0, 101, 0, 0);
        Kit.due("who KNOWS it", x.story(0, 3), 1);
        Kit.due("nothing can be undone", x.undo(), -1);
        Kit.due("lived", Kit.book(x, text, 1), 4);
        EarTown y = Kit.of(town);
        y.hear(0, 1, 2);
        y.tell(0, 2, 0);
        y.days(3);
        y.strike();
        for (int what = 0; what < 8; what++) {
            Kit.due("lived, now(" + what + ")", x.now(what), y.now(what));
        }
        Kit.due("lived, who KNOWS it", x.story(0, 3), 5);
        Kit.due("one act", x.undo(), 0);
        nows("undone", x, 0, 0, 3, 0, 0, 101, 0, 0);
        EarTown z = manyTold();
        long[] ahead = all(z);
        Kit.due("judged", Kit.book(z, "d hears a 1;a hears b 1;a tells d t;day 2;strike;a hears a 1;", 0), 5);
        Kit.due("the first answer not as ahead of it", Arrays.mismatch(ahead, all(z)), -1);

        Doc.holds(36, "the LINE that is WRONG (from 0); NONE: none; -2 less the place of a FAULT;");
        Kit.due("the first LINE", Kit.book(x, "a hears a 1;", 0), 0);
        Kit.due("the second LINE", Kit.book(x, "day 1;a hears a 1;a hears a 1;", 0), 1);
        Kit.due("the 30th LINE", Kit.book(x, "strike;".repeat(29) + "a hears a 1;", 0), 29);
        Kit.due("none", Kit.book(x, "strike;", 0), -1);
        Kit.due("none of no LINES", Kit.book(x, "", 0), -1);
        Kit.due("a FAULT at 0", Kit.book(x, "z", 0), -2);
        Kit.due("a FAULT at the end", Kit.book(x, "day 1;a hears a 1", 0), -2 - 17);
        Kit.due("a FAULT behind a LINE that would be WRONG", Kit.book(x, "a hears a 1;z", 1), -2 - 12);

        Doc.holds(36, "-1000: another lives (the tape stays).");
        Kit.feed(x, "day 1;");
        for (int lives : new int[] {-1, 2, 3, -1000, Integer.MIN_VALUE, Integer.MAX_VALUE}) {
            Kit.due("book(" + lives + ")", x.book(lives), -1000);
            Kit.due("the tape", x.count(4), 6);
        }
        Kit.due("the BOOK that stays", x.book(1), -1);
        Kit.due("lived", x.now(0), 1);
    }

    private static void bookedIs(String what, EarTown x, int... due) {
        for (int i = 0; i < due.length; i++) {
            Kit.due(what + ", booked(" + i + ")", x.booked(i), due[i]);
        }
    }

    private static void booked() {
        Doc.holds(37, "Of the latest book() that had no FAULT (and was not -1000): 0 why it was WRONG "
                + "(0: it was not; 1 to 4 as for HEARS, 11 to 13 as for TELLS, 20: the DAY would be above 9999),");
        EarTown x = Kit.of("person a 50 9 0;person b 50 24 0;person c 1 1 0;owes c a 11;story s a 5 1;");
        Kit.book(x, "b hears b 24;", 0);
        bookedIs("itself", x, 1, 0, 0, 0);
        Kit.book(x, "a hears b 10;", 0);
        bookedIs("EAR", x, 2, 0, 0, 0);
        Kit.book(x, "a hears c 2;", 0);
        bookedIs("NEED", x, 3, 0, 0, 0);
        Kit.book(x, "day 1;a hears c 1;", 0);
        bookedIs("RUINED", x, 4, 1, 0, 0);
        Kit.book(x, "b tells b s;", 0);
        bookedIs("TELLS itself", x, 11, 0, 0, 0);
        Kit.book(x, "b tells a s;", 0);
        bookedIs("does not KNOW it", x, 12, 0, 0, 0);
        Kit.book(x, "a tells b s;b tells a s;", 0);
        bookedIs("KNOWS it", x, 13, 1, 0, 0);
        Kit.book(x, "day 1;day", 0);
        bookedIs("a FAULT leaves it", x, 13, 1, 0, 0);
        Kit.feed(x, "day 1;");
        x.book(2);
        bookedIs("-1000 leaves it", x, 13, 1, 0, 0);
        x.book(1);
        bookedIs("not WRONG", x, 0, 1, 0, 0);
        x.undo();
        bookedIs("undo() leaves it", x, 0, 1, 0, 0);
        EarTown late = lateTown(9970);
        Kit.due("to 10000", Kit.book(late, "strike;day 30;", 0), 1);
        bookedIs("to 10000", late, 20, 1, 0, 0);
        Kit.due("to 9999", Kit.book(late, "day 29;", 1), -1);
        bookedIs("to 9999", late, 0, 1, 0, 0);
        Kit.due("one more", Kit.book(late, "day 1;", 1), 0);
        bookedIs("one more", late, 20, 0, 0, 0);
        Kit.due("the DAY", late.now(0), 9999);

        Doc.holds(37, "1 how many LINES are ahead of the one that is WRONG (all, if none is), 2 hours heard in it, 3 RINGS struck out in it.");
        EarTown y = Kit.of("person a 9 9 1;person b 9 9 1;person c 9 9 1;owes a b 2;owes b c 3;owes c a 4;false a;story s a 5 1;");
        y.hear(1, 0, 3);
        String text = "strike;a hears c 2;b hears c 4;strike;a tells b s;";
        for (int lives = 0; lives < 2; lives++) {
            Kit.due("none is WRONG", Kit.book(y, text, lives), -1);
            bookedIs("none is WRONG", y, 0, 5, 6, 1);
        }
        EarTown rings = Kit.of(eightPersons() + "owes a b 1;owes b c 1;owes c a 1;owes d e 2;owes e f 2;owes f d 1;owes f g 1;owes g d 1;");
        Kit.book(rings, "strike;strike;", 0);
        bookedIs("three RINGS by one LINE", rings, 0, 2, 0, 3);
        y.undo();
        Kit.book(y, text + "c hears c 1;strike;", 1);
        bookedIs("the sixth is WRONG", y, 1, 5, 6, 1);
        Kit.book(y, "", 0);
        bookedIs("no LINES", y, 0, 0, 0, 0);

        Doc.holds(37, "NONE: another what, or ahead of any.");
        for (int what : STRANGE) {
            Kit.due("booked(" + what + ")", y.booked(what), -1);
        }
        Kit.due("booked(4)", y.booked(4), -1);
        EarTown z = Kit.of(TWO);
        bookedIs("ahead of any", z, -1, -1, -1, -1);
        Kit.book(z, "day", 0);
        z.book(2);
        bookedIs("ahead of any without a FAULT", z, -1, -1, -1, -1);
    }

    /** Each LINE of a BOOK is lived as the call of the same kind does. */
    private static void bookLives() {
        Doc.holds(36, "or lived as far as it is not WRONG (1):");
        EarTown x = Kit.of(TWO + "person c 9 1 0;owes c a 11;story s a 5 1;gift 1;free b;false c;");
        EarTown y = Kit.of(TWO + "person c 9 1 0;owes c a 11;story s a 5 1;gift 1;free b;false c;");
        Kit.book(x, "a hears c 3;c hears a 1;b hears a 4;a tells b s;b tells c s;day 30;a hears b 24;a hears b 1;day 1;", 1);
        y.hear(0, 2, 3);
        y.hear(2, 0, 1);
        y.hear(1, 0, 4);
        y.tell(0, 1, 0);
        y.tell(1, 2, 0);
        y.days(30);
        y.hear(0, 1, 24);
        bookedIs("WRONG at the eighth", x, 2, 7, 32, 0);
        for (int what = 0; what < 8; what++) {
            Kit.due("now(" + what + ")", x.now(what), y.now(what));
        }
        for (int p = 0; p < 3; p++) {
            for (int what = 0; what < 11; what++) {
                Kit.due("person(" + p + ", " + what + ")", x.person(p, what), y.person(p, what));
            }
            for (int q = 0; q < 3; q++) {
                Kit.due("owes(" + p + ", " + q + ")", x.owes(p, q), y.owes(p, q));
            }
        }
        for (int what = 0; what < 4; what++) {
            Kit.due("story(0, " + what + ")", x.story(0, what), y.story(0, what));
        }
    }

    private static void saidIs(EarTown x, String text, int... due) {
        if (Kit.sentence(x, text) < 0) {
            Kit.due("FAULTS of " + text, 1, 0);
        }
        Kit.due("how many of " + text, x.said(-1), due.length);
        for (int k = 0; k < due.length; k++) {
            Kit.due("said(" + k + ") of " + text, x.said(k), due[k]);
        }
        Kit.due("said(" + due.length + ") of " + text, x.said(due.length), -1);
    }

    private static void sentence() {
        Doc.holds(39, "'ruined' | 'free' | 'false' | 'knows' STORY | 'owes' PERSON (some hours)");
        EarTown x = Kit.of("person a 9 9 0;person b 9 1 0;person c 9 9 0;person d 9 9 0;owes b a 11;owes c a 1;free c;free d;false d;story s c 1 1;story t b 1 1;");
        saidIs(x, "ruined");
        x.days(1);
        saidIs(x, "ruined", 1);
        saidIs(x, "free", 2, 3);
        saidIs(x, "false", 3);
        saidIs(x, "knows s", 2);
        saidIs(x, "knows t", 1);
        saidIs(x, "owes a", 1, 2);
        saidIs(x, "owes b");
        saidIs(x, "owes c");
        x.tell(2, 3, 0);
        saidIs(x, "knows s", 2, 3);
        saidIs(x, "owes c", 3);
        saidIs(x, "owes d");
        x.hear(3, 2, 1);
        saidIs(x, "owes c", 3);
        x.hear(2, 3, 1);
        saidIs(x, "owes c", 3);
        x.hear(0, 2, 1);
        saidIs(x, "owes a", 1, 2);
        EarTown y = Kit.of(TWO + "owes a b 1;");
        saidIs(y, "owes b", 0);
        y.hear(0, 1, 1);
        saidIs(y, "owes b");
        saidIs(y, "owes a");
        y.hear(0, 1, 1);
        saidIs(y, "owes a", 1);

        Doc.holds(39, "It is said of PERSONS.");
        EarTown z = new EarTown();
        saidIs(z, "not free");
        Kit.due("eight PERSONS", Kit.of(eightPersons()).count(0), 8);
        saidIs(Kit.of(eightPersons()), "not free", 0, 1, 2, 3, 4, 5, 6, 7);
        saidIs(Kit.of(eightPersons()), "free");
        saidIs(Kit.of(eightPersons() + "free h;"), "free", 7);
        saidIs(Kit.of(eightPersons() + "free a;free h;"), "not not free", 0, 7);
    }

    static String eightPersons() {
        StringBuilder text = new StringBuilder();
        for (char c = 'a'; c <= 'h'; c++) {
            text.append("person ").append(c).append(" 1 1 1;");
        }
        return text.toString();
    }

    private static void measures() {
        Doc.holds(39, "SIGN NUMBER (NEED now; EAR left today; all that it owes; all that is owed to it; its number).");
        EarTown x = Kit.of("person a 20 9 0;person b 21 8 0;person c 22 7 0;person d 23 6 0;owes a b 1;owes a c 2;owes b c 2;owes b d 3;");
        saidIs(x, "need < 21", 0);
        saidIs(x, "need = 21", 1);
        saidIs(x, "need > 21", 2, 3);
        saidIs(x, "ear < 8", 2, 3);
        saidIs(x, "ear = 8", 1);
        saidIs(x, "ear > 8", 0);
        saidIs(x, "debt < 5", 0, 2, 3);
        saidIs(x, "debt = 5", 1);
        saidIs(x, "debt > 3", 1);
        saidIs(x, "debt > 2", 0, 1);
        saidIs(x, "credit < 3", 0, 1);
        saidIs(x, "credit = 3", 3);
        saidIs(x, "credit > 3", 2);
        saidIs(x, "place < 1", 0);
        saidIs(x, "place < 0");
        saidIs(x, "place = 0", 0);
        saidIs(x, "place = 003", 3);
        saidIs(x, "place > 1", 2, 3);
        saidIs(x, "place > 3");
        saidIs(x, "place < 999", 0, 1, 2, 3);
        Kit.sentence(x, "need = 18");
        x.hear(0, 1, 3);
        Kit.due("NEED now", x.said(0), 1);
        saidIs(x, "ear = 6", 0, 3);
        saidIs(x, "debt = 7", 1);
        saidIs(x, "credit = 2", 0);
        x.days(1);
        saidIs(x, "ear = 9", 0);
        EarTown y = Kit.of("person a 99 1 9;person b 0 0 0;");
        y.drawn(60, 1, 1);
        y.drawn(60, 1, 1);
        saidIs(y, "need > 998", 0);
        saidIs(y, "need = 999", 0);
        saidIs(y, "need < 999", 1);
    }

    private static void joins() {
        Doc.holds(39, "COND: ALL { 'or' ALL }. ALL: ONE { 'and' ONE }.");
        EarTown x = Kit.of("person a 1 1 1;person b 1 1 1;person c 1 1 1;person d 1 1 1;");
        saidIs(x, "place=0 or place=1 and place=2", 0);
        saidIs(x, "place=1 and place=2 or place=0", 0);
        saidIs(x, "(place=0 or place=1) and place=1", 1);
        saidIs(x, "place=1 and (place=0 or place=1)", 1);
        saidIs(x, "place=0 or place=1 or place=3", 0, 1, 3);
        saidIs(x, "place>0 and place<3 and place>1", 2);
        saidIs(x, "place<1 or place>0 and place<2 or place>2 and place<9", 0, 1, 3);
        saidIs(x, "not place=0 and place<2", 1);
        saidIs(x, "not (place=0 and place<2)", 1, 2, 3);
        saidIs(x, "not place=0 or place=0", 0, 1, 2, 3);
        saidIs(x, "not (place=0 or place=2)", 1, 3);
        saidIs(x, "not not place=2", 2);
        saidIs(x, "place=3 and not place=2", 3);
        saidIs(x, "(((((((place=2)))))))", 2);
        saidIs(x, "not not not not not not not place=2", 0, 1, 3);
    }

    private static void said() {
        Doc.holds(39, "PERSONS of whom it may be said: how many (k NONE), or the k-th.");
        EarTown x = Kit.of("person a 1 1 1;person b 2 1 1;person c 1 1 1;person d 2 1 1;");
        Kit.sentence(x, "need=2");
        Kit.due("how many", x.said(-1), 2);
        Kit.due("the first", x.said(0), 1);
        Kit.due("the second", x.said(1), 3);
        x.days(1);
        Kit.due("now", x.said(-1), 2);
        Kit.due("the first now", x.said(0), 0);
        Kit.sentence(x, "place > 8");
        Kit.due("nobody", x.said(-1), 0);
        Kit.due("the first of nobody", x.said(0), -1);

        Doc.holds(39, "NONE: there is no SENTENCE, none such.");
        Kit.sentence(x, "need=2");
        for (int k : STRANGE) {
            Kit.due("said(" + k + ")", x.said(k), k == -1 ? 2 : -1);
        }
        Kit.due("said(2) of two", x.said(2), -1);
        EarTown y = Kit.of(TWO);
        Kit.due("no SENTENCE", y.said(-1), -1);
        Kit.due("no SENTENCE's first", y.said(0), -1);
        Kit.sentence(y, "free free");
        Kit.due("one with a FAULT is none", y.said(-1), -1);
    }

    private static void image() {
        Doc.holds(40, "TOWN, all that is so and the SENTENCE are kept in place k (0, 1): true;");
        EarTown x = Kit.of(TWO + "person c 1 1 0;owes c a 11;owes a b 2;owes b c 3;story s a 5 1;gift 2;ruin 3;free b;false a;");
        x.strike();
        Kit.book(x, "a hears b 3;a tells b s;day 2;b hears a 1;", 1);
        Kit.sentence(x, "owes c or knows s");
        Kit.due("image(0)", x.image(0), true);
        Kit.due("image(0) again", x.image(0), true);
        Kit.due("image(1)", x.image(1), true);
        long[] kept = all(x);
        x.hear(1, 2, 1);
        x.days(3);
        Kit.town(x, "person q 7 7 7;story r q 7 7;");
        x.restore(1);
        long[] restored = all(x);
        for (int i = 0; i < kept.length; i++) {
            Kit.due("answer " + i + " as kept", restored[i], kept[i]);
        }
        Kit.due("its names", Kit.book(x, "a tells c s;c tells a s;", 0), 1);
        x.days(7);
        x.image(0);
        Kit.due("the other place stays", x.restore(1), true);
        Kit.due("its DAY", x.now(0), 2);
        x.restore(0);
        Kit.due("the latest is kept", x.now(0), 9);
        EarTown y = new EarTown();
        Kit.due("an empty TOWN", y.image(1), true);
        Kit.town(y, TWO);
        y.restore(1);
        Kit.due("its PERSONS", y.count(0), 0);

        Doc.holds(40, "false: no such one.");
        for (int k : STRANGE) {
            Kit.due("image(" + k + ")", y.image(k), false);
        }
        Kit.due("image(2)", y.image(2), false);
        Kit.due("nothing is kept by them", y.restore(0), false);
    }

    /** All that is so, by calls that change nothing. */
    static long[] all(EarTown x) {
        long[] row = new long[160];
        int n = 0;
        int persons = x.count(0);
        for (int what = 0; what < 8; what++) {
            row[n++] = x.now(what);
            row[n++] = x.count(what % 4);
        }
        for (int p = 0; p < persons && p < 4; p++) {
            for (int what = 0; what < 11; what++) {
                row[n++] = x.person(p, what);
            }
            for (int q = 0; q < persons && q < 4; q++) {
                row[n++] = x.owes(p, q);
            }
        }
        for (int s = 0; s < x.count(1) && s < 3; s++) {
            for (int what = 0; what < 4; what++) {
                row[n++] = x.story(s, what);
            }
        }
        for (int k = -1; k < 4; k++) {
            row[n++] = x.said(k);
        }
        return row;
    }

    private static void restore() {
        Doc.holds(41, "They are as kept in place k (the tape, and what other calls told last, stays; nothing can be undone): true;");
        EarTown x = Kit.of("person a 4 5 0;person b 2 3 0;person c 0 9 0;owes a b 1;owes b c 1;owes c a 1;");
        x.image(0);
        x.ring();
        x.hour();
        x.prices(2);
        x.strike();
        Kit.feed(x, "fbd");
        x.talked();
        Kit.book(x, "a hears b 2;", 0);
        Kit.sentence(x, "not ".repeat(9));
        x.days(1);
        x.days(1);
        Kit.feed(x, "free");
        Kit.due("restore(0)", x.restore(0), true);
        Kit.due("nothing can be undone", x.undo(), -1);
        Kit.due("the tape stays", x.count(4), 4);
        Kit.due("its bytes stay", x.sentence(), 1);
        Kit.due("ringAt() stays", x.ringAt(2), 2);
        Kit.due("with() stays", x.with(1), 200);
        Kit.due("price() stays", x.price(1), 2);
        Kit.due("wants() stays", x.wants(1), 0);
        Kit.due("struck() stays", x.struck(), 3);
        Kit.due("talk() stays", x.talk(0, 2), 2);
        Kit.due("booked() stays", x.booked(2), 2);
        Kit.due("what is so does not", x.now(0) + x.now(6), 0);
        Kit.due("again", x.restore(0), true);
        Kit.due("the SENTENCE does not", x.said(-1), -1);
        x.days(5);
        Kit.due("and again", x.restore(0), true);
        Kit.due("an image is no act's", x.now(0), 0);
        Kit.sentence(x, "free free");
        x.restore(0);
        Kit.due("fault() stays", x.fault(), 1);

        Doc.holds(41, "false: no such one, or nothing is kept there.");
        x.days(3);
        for (int k : STRANGE) {
            Kit.due("restore(" + k + ")", x.restore(k), false);
        }
        Kit.due("restore(2)", x.restore(2), false);
        Kit.due("nothing is kept in 1", x.restore(1), false);
        Kit.due("the DAY stays", x.now(0), 3);
        Kit.due("the act stays", x.undo(), 0);
        Kit.due("nothing is kept in 0 of another", new EarTown().restore(0), false);
    }

    /** Nothing of those of an earlier TOWN who are not in the new one is left in what is reckoned of all. */
    private static void smallerTown() {
        EarTown x = manyTold();
        x.strike();
        Kit.town(x, "person z 7 6 5;person y 2 3 4;");
        nows("two behind four", x, 0, 0, 0, 0, 0, 9, 0, 0);
        persons("two behind four", x, 0, 7, 6, 6, 5, 0, 0, 0, 0, 0, 0, 0);
        persons("two behind four", x, 1, 2, 3, 3, 4, 0, 0, 0, 0, 0, 0, 0);
        Kit.due("most is owed to", x.most(0), 0);
        Kit.due("nobody owes", x.next(), -1);
        x.days(1);
        nows("a DAY on", x, 1, 0, 0, 0, 0, 18, 0, 0);
        Kit.town(x, "");
        nows("none behind two", x, 0, 0, 0, 0, 0, 0, 0, 0);
        Kit.town(x, eightPersons());
        nows("eight behind none", x, 0, 0, 0, 0, 0, 8, 0, 0);
    }

    /** What newTown() had told of three PERSONS, however many the TOWN has now. */
    private static void toldStays(EarTown x) {
        String in = " stays with " + x.count(0) + " PERSONS";
        Kit.due("ringAt(2)" + in, x.ringAt(2), 2);
        Kit.due("ringAt(3)" + in, x.ringAt(3), -1);
        Kit.due("with(1)" + in, x.with(1), 200);
        Kit.due("with(2)" + in, x.with(2), 0);
        Kit.due("with(3)" + in, x.with(3), -1);
        Kit.due("price(1)" + in, x.price(1), 2);
        Kit.due("price(2)" + in, x.price(2), 0);
        Kit.due("price(3)" + in, x.price(3), -1);
        Kit.due("wants(1)" + in, x.wants(1), 0);
        Kit.due("wants(3)" + in, x.wants(3), -1);
        Kit.due("struck()" + in, x.struck(), 3);
        Kit.due("talk(0, 2)" + in, x.talk(0, 2), 2);
        Kit.due("booked(2)" + in, x.booked(2), 2);
    }

    private static void newTown() {
        Doc.holds(4, "A new TOWN: DAY 0, no SENTENCE; nothing can be undone (what other calls told last stays).");
        EarTown x = Kit.of("person a 4 5 0;person b 2 3 0;person c 0 9 0;owes a b 1;owes b c 1;owes c a 1;story s a 5 1;free a;false b;gift 1;ruin 1;");
        x.image(0);
        x.ring();
        x.hour();
        x.prices(2);
        x.strike();
        Kit.feed(x, "fbd");
        x.talked();
        Kit.book(x, "a hears b 2;", 0);
        Kit.sentence(x, "free");
        x.days(30);
        x.tell(0, 1, 0);
        Kit.town(x, "person z 7 6 5;person y 1 1 1;person x 1 1 1;story w z 3 1;");
        nows("new", x, 0, 0, 0, 0, 0, 9, 0, 0);
        persons("new", x, 0, 7, 6, 6, 5, 0, 0, 0, 0, 0, 0, 0);
        persons("new", x, 1, 1, 1, 1, 1, 0, 0, 0, 0, 0, 0, 0);
        stories("new", x, 0, 0, 3, 0, 1);
        Kit.due("no SENTENCE", x.said(-1), -1);
        Kit.due("nothing can be undone", x.undo(), -1);
        smallerTown();
        toldStays(x);
        Kit.town(x, "person z 7 6 5;");
        toldStays(x);
        Kit.town(x, eightPersons());
        toldStays(x);
        Kit.due("what is kept stays", x.restore(0), true);
        Kit.due("its gift", x.count(2), 1);

        Doc.holds(4, "A call that throws changes nothing.");
        x.days(1);
        long[] before = all(x);
        Kit.dueThrow("person(3, 0)", () -> x.person(3, 0));
        Kit.dueThrow("story(1, 0)", () -> x.story(1, 0));
        Kit.dueThrow("griefs(0, 0, 0, 1, 0)", () -> x.griefs(0, 0, 0, 1, 0));
        long[] after = all(x);
        for (int i = 0; i < before.length; i++) {
            Kit.due("answer " + i, after[i], before[i]);
        }
        Kit.due("the act stays", x.undo(), 0);
    }
}
