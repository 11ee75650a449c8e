/** Edges of what is reckoned: RINGS, HOUR, PRICES, GRIEFS, SAVED, SERMONS, STORIES sold, TALKED, DRAWN. */
final class EdgesOfReckoning {
    private static final int[] STRANGE = EdgesOfLife.STRANGE;
    private static final String TWO = "person a 50 24 0;person b 50 24 0;";
    private static final String EIGHT = persons(8, "24 24 0");

    private EdgesOfReckoning() {
    }

    static void all() {
        ring();
        ringAt();
        hour();
        hourOrder();
        with();
        prices();
        rounds();
        price();
        griefs();
        griefTerms();
        saved();
        savedOf();
        sermon();
        sermonRefused();
        crowd();
        sold();
        best();
        talked();
        talkSets();
        talk();
        drawn();
        drawnRefused();
        odds();
    }

    /** So many PERSONS by the names a, b, .., all with the same numbers. */
    static String persons(int n, String numbers) {
        StringBuilder text = new StringBuilder();
        for (int i = 0; i < n; i++) {
            text.append("person ").append((char) ('a' + i)).append(' ').append(numbers).append(';');
        }
        return text.toString();
    }

    /** NOTES: "ab3" for owes a b 3. */
    private static String notes(String row) {
        StringBuilder text = new StringBuilder();
        for (String note : row.split(" ")) {
            text.append("owes ").append(note.charAt(0)).append(' ').append(note.charAt(1)).append(' ').append(note.substring(2)).append(';');
        }
        return text.toString();
    }

    private static void ringIs(String row, int... due) {
        EarTown x = Kit.of(persons(8, "1 1 1") + notes(row));
        Kit.due("ring() of " + row, x.ring(), due.length);
        for (int i = 0; i < due.length; i++) {
            Kit.due("ringAt(" + i + ") of " + row, x.ringAt(i), due[i]);
        }
        Kit.due("ringAt() behind it of " + row, x.ringAt(due.length), -1);
        Kit.due("nothing is struck out of " + row, x.now(6), 0);
    }

    private static void ring() {
        Doc.holds(17, "The RING that would be struck out first: how many PERSONS;");
        ringIs("ab1 bc1 ca1", 0, 1, 2);
        ringIs("ba1 cb1 ac1", 0, 2, 1);
        ringIs("ab1 bc1 cd1 da1", 0, 1, 2, 3);
        ringIs("ab1 bc1 cd1 da1 fg1 gh1 hf1", 5, 6, 7);
        ringIs("fg9 gh9 hf9", 5, 6, 7);
        ringIs("ab1 bd1 da1 bc1 ca1", 0, 1, 2);
        ringIs("ab1 bd1 da1 dc1 cb1", 0, 1, 3);
        ringIs("ah1 hg1 gf1 fe1 ed1 dc1 cb1 ba1", 0, 7, 6, 5, 4, 3, 2, 1);
        ringIs("bc9 cd9 db9 ae1 ef1 fa1", 0, 4, 5);
        ringIs("bc9 cd9 db9 ae1 ef1 fg1 ga1", 1, 2, 3);
        ringIs("ac1 cb1 ba1 ad9 de9 ea9", 0, 2, 1);

        Doc.holds(17, "0: none.");
        ringIs("ab1");
        ringIs("ab1 bc1 cd1");
        ringIs("ab1 bc1 ac1");
        ringIs("ab1 bc1 cd1 de1 ef1 fg1 gh1");
        Kit.due("an empty TOWN", new EarTown().ring(), 0);
        Kit.due("of two PERSONS", Kit.of(TWO + "owes a b 1;").ring(), 0);
        EarTown x = Kit.of(persons(3, "9 9 0") + notes("ab1 bc1 ca1"));
        x.hear(1, 0, 1);
        Kit.due("a NOTE is more", x.ring(), 3);
        x.hear(0, 1, 1);
        Kit.due("it is less", x.ring(), 3);
        x.hear(0, 1, 1);
        Kit.due("it is no more", x.ring(), 0);
    }

    private static void ringAt() {
        Doc.holds(18, "The i-th PERSON of the RING of the latest ring();");
        EarTown x = Kit.of(persons(4, "1 1 1") + notes("bd1 dc1 cb1"));
        x.ring();
        Kit.due("ringAt(0)", x.ringAt(0), 1);
        Kit.due("ringAt(1)", x.ringAt(1), 3);
        Kit.due("ringAt(2)", x.ringAt(2), 2);
        x.strike();
        Kit.due("behind a strike()", x.ringAt(0), 1);
        x.undo();
        Kit.book(x, "strike;", 1);
        Kit.due("behind a BOOK", x.ringAt(2), 2);

        Doc.holds(18, "NONE: there is none such, or ahead of any.");
        Kit.due("ringAt(3) of three", x.ringAt(3), -1);
        for (int i : STRANGE) {
            Kit.due("ringAt(" + i + ")", x.ringAt(i), -1);
        }
        Kit.due("ringAt(8)", x.ringAt(8), -1);
        x.ring();
        Kit.due("the latest one is none", x.ringAt(0), -1);
        EarTown y = Kit.of(persons(3, "1 1 1") + notes("ab1 bc1 ca1"));
        y.strike();
        Kit.due("ahead of any, struck out", y.ringAt(0), -1);
        EarTown z = Kit.of(persons(8, "1 1 1") + notes("ab1 bc1 cd1 de1 ef1 fg1 gh1 ha1"));
        z.ring();
        Kit.due("ringAt(7) of eight", z.ringAt(7), 7);
        Kit.due("ringAt(8) of eight", z.ringAt(8), -1);
        Kit.town(z, persons(4, "1 1 1") + notes("ab1 bc1 ca1"));
        z.ring();
        Kit.due("ringAt(3) behind a longer one", z.ringAt(3), -1);
    }

    private static void hourIs(String town, int due, int... with) {
        EarTown x = Kit.of(town);
        Kit.due("hour() of " + town, x.hour(), due);
        for (int p = 0; p < with.length; p++) {
            Kit.due("with(" + p + ") of " + town, x.with(p), with[p]);
        }
        Kit.due("nobody HEARD anybody of " + town, x.now(7), 0);
    }

    private static void hour() {
        Doc.holds(20, "HOUR: pairs of PERSONS, nobody in two: one HEARS the other one for an hour (it could, as above):");
        hourIs("", 0);
        hourIs("person a 5 5 0;", 0, 0);
        hourIs("person a 9 0 0;person b 5 0 0;person c 0 9 0;", 9, 102, 0, 200);
        hourIs("person a 0 9 0;person b 0 9 0;", 0, 0, 0);
        hourIs("person a 9 0 0;person b 9 0 0;", 0, 0, 0);
        hourIs("person a 1 0 0;person b 0 1 0;", 1, 101, 200);
        EarTown x = Kit.of("person a 50 1 0;person b 3 4 0;owes a b 11;");
        Kit.due("not RUINED yet", x.hour(), 50);
        x.days(1);
        Kit.due("a RUINED one HEARS and is not heard", x.hour(), 3);
        Kit.due("with(0)", x.with(0), 201);
        EarTown y = Kit.of("person a 50 1 0;person b 3 4 0;owes a b 11;free a;");
        y.days(1);
        Kit.due("a free one is heard", y.hour(), 50);
        y.hear(1, 0, 4);
        Kit.due("EARS left today", y.hour(), 3);
        y.hear(0, 1, 1);
        Kit.due("no EARS left", y.hour(), 0);
        Kit.due("one that is false HEARS", Kit.of("person a 5 0 0;person b 0 1 0;false b;").hour(), 5);

        Doc.holds(20, "so that the NEEDS of those heard are most together;");
        hourIs("person a 4 5 0;person b 2 3 0;person c 0 9 0;", 4, 101, 200, 0);
        hourIs("person a 2 5 0;person b 3 3 0;", 3, 201, 100);
        hourIs("person a 1 1 0;person b 5 1 0;person c 9 1 0;person d 8 1 0;", 17, 202, 203, 100, 101);
        hourIs("person a 9 0 0;person b 1 0 0;person c 0 1 0;person d 8 0 0;person e 0 1 0;", 17, 102, 0, 200, 104, 203);
        hourIs(persons(8, "99 1 0"), 396, 101, 200, 103, 202, 105, 204, 107, 206);
        hourIs(persons(7, "9 1 0"), 27, 0, 102, 201, 104, 203, 106, 205);
        hourIs("person a 6 1 0;person b 5 1 0;person c 4 1 0;", 6, 101, 200, 0);

        Doc.holds(20, "HOUR: the NEEDS of those heard together.");
        EarTown z = Kit.of("person a 99 1 9;person b 99 0 9;");
        z.days(1);
        Kit.due("a NEED of 108", z.hour(), 108);
    }

    private static void hourOrder() {
        Doc.holds(20, "of like ones PERSON by PERSON, with whom it is (nobody ahead of all, then by numbers; heard ahead of hearing).");
        hourIs(persons(2, "1 1 0"), 1, 101, 200);
        hourIs(persons(3, "1 1 0"), 1, 0, 102, 201);
        hourIs(persons(4, "1 1 0"), 2, 101, 200, 103, 202);
        hourIs(persons(5, "1 1 0"), 2, 0, 102, 201, 104, 203);
        hourIs("person a 9 0 0;person b 9 0 0;person c 0 1 0;person d 0 1 0;", 18, 102, 103, 200, 201);
        hourIs("person a 0 1 0;person b 5 0 0;person c 5 0 0;", 5, 201, 100, 0);
        hourIs("person a 0 1 0;person b 0 1 0;person c 5 0 0;", 5, 0, 202, 101);
        hourIs("person a 5 1 0;person b 2 0 0;person c 0 1 0;person d 3 0 0;", 5, 201, 100, 203, 102);
        hourIs("person a 2 5 0;person b 2 3 0;", 2, 101, 200);
        hourIs("person a 0 1 0;person b 3 1 0;person c 3 1 0;person d 0 0 0;", 3, 0, 102, 201, 0);
    }

    private static void with() {
        Doc.holds(21, "By the latest hour() with whom a PERSON is: 100 times 1 (it is heard) or 2 (it hears), and the other one; 0: nobody.");
        EarTown x = Kit.of(persons(5, "0 0 0") + "person f 9 0 0;person g 0 0 0;person h 0 1 0;");
        x.hour();
        Kit.due("heard by h", x.with(5), 107);
        Kit.due("HEARS f", x.with(7), 205);
        Kit.due("nobody", x.with(6), 0);
        EarTown y = Kit.of("person a 4 5 0;person b 2 3 0;");
        y.hour();
        Kit.due("heard by b", y.with(0), 101);
        Kit.due("HEARS a", y.with(1), 200);
        y.hear(1, 0, 3);
        Kit.due("as it was", y.with(1), 200);
        y.hour();
        Kit.due("the latest", y.with(1), 100);

        Doc.holds(21, "NONE: no such one, or ahead of any.");
        Kit.due("with(2) of two", y.with(2), -1);
        Kit.due("with(8) of eight", x.with(8), -1);
        for (int p : STRANGE) {
            Kit.due("with(" + p + ")", x.with(p), -1);
        }
        Kit.due("ahead of any", Kit.of(TWO).with(0), -1);
        EarTown z = new EarTown();
        z.hour();
        Kit.due("of no PERSONS", z.with(0), -1);
    }

    private static EarTown pricesAre(String town, int step, int rounds, int[] prices, int[] wants) {
        EarTown x = Kit.of(town);
        Kit.due("prices(" + step + ") of " + town, x.prices(step), rounds);
        for (int p = 0; p < prices.length; p++) {
            Kit.due("price(" + p + ") of " + town, x.price(p), prices[p]);
            Kit.due("wants(" + p + ") of " + town, x.wants(p), wants[p]);
        }
        return x;
    }

    private static int[] row(int... numbers) {
        return numbers;
    }

    private static void prices() {
        Doc.holds(22, "PRICES: each PERSON with a NEED wants so many hours of one hearer (not itself, with an EAR as told above 0): "
                + "the one with the least price, of like ones the first. Prices are 0 at first.");
        pricesAre("person a 1 5 0;", 1, 1, row(0), row(-1));
        pricesAre("person a 9 5 0;person b 0 0 0;", 1, 1, row(0, 0), row(-1, -1));
        pricesAre("person a 9 0 0;person b 9 0 0;", 1, 1, row(0, 0), row(-1, -1));
        pricesAre("person a 0 5 0;person b 0 3 0;", 9, 1, row(0, 0), row(-1, -1));
        pricesAre("person a 1 0 0;person b 0 1 0;person c 0 1 0;", 3, 1, row(0, 0, 0), row(1, -1, -1));
        pricesAre(persons(8, "1 24 0"), 1, 1, row(0, 0, 0, 0, 0, 0, 0, 0), row(1, 0, 0, 0, 0, 0, 0, 0));
        EarTown x = Kit.of("person a 1 1 0;person b 9 0 0;");
        x.hear(0, 1, 1);
        Kit.due("no EAR left", x.person(0, 1), 0);
        Kit.due("EAR as told", x.prices(1), 500);
        Kit.due("the hearer all the same", x.wants(1), 0);
        EarTown y = Kit.of("person a 1 9 0;person b 0 9 0;owes a b 91;");
        y.days(1);
        y.prices(1);
        Kit.due("a RUINED one wants", y.wants(0), 1);

        Doc.holds(22, "ROUND by ROUND that of each hearer of whom more hours are wanted than its EAR as told is a step more. They REST, if none is.");
        pricesAre("person a 5 0 0;person b 0 5 0;", 1, 1, row(0, 0), row(1, -1));
        pricesAre("person a 6 0 0;person b 0 5 0;person c 0 6 0;", 1, 2, row(0, 1, 0), row(2, -1, -1));
        pricesAre("person a 4 5 0;person b 2 3 0;person c 0 9 0;", 2, 2, row(0, 2, 0), row(2, 0, -1));
        pricesAre("person a 3 0 0;person b 3 0 0;person c 0 6 0;person d 0 9 0;", 5, 1, row(0, 0, 0, 0), row(2, 2, -1, -1));
        pricesAre("person a 3 0 0;person b 4 0 0;person c 0 6 0;person d 0 7 0;", 5, 2, row(0, 0, 5, 0), row(3, 3, -1, -1));
        pricesAre("person a 6 0 0;person b 0 5 0;person c 0 4 0;person d 0 6 0;", 7, 3, row(0, 7, 7, 0), row(3, -1, -1, -1));
        pricesAre("person a 2 1 0;person b 2 1 0;person c 0 4 0;", 3, 2, row(3, 3, 0), row(2, 2, -1));
        EarTown z = Kit.of("person a 0 0 9;person b 0 9 0;person c 0 24 0;");
        z.days(1);
        Kit.due("NEED now, 9", z.prices(1), 1);
        z.days(1);
        Kit.due("NEED now, 18", z.prices(1), 2);
        Kit.due("the price", z.price(1), 1);
    }

    private static void rounds() {
        Doc.holds(22, "PRICES by a step (1 to 9): how many ROUNDS till they REST (the last one, in which none is more, counted; 500 at most);");
        for (int step = 1; step <= 9; step++) {
            pricesAre("person a 0 0 0;person b 1 5 0;", step, 1, row(0, 0), row(-1, -1));
            pricesAre("person a 6 0 0;person b 0 5 0;person c 0 6 0;", step, 2, row(0, step, 0), row(2, -1, -1));
            pricesAre("person a 6 0 0;person b 0 5 0;", step, 500, row(0, 500 * step), row(1, -1));
        }
        pricesAre("person a 5 8 1;person b 3 4 0;person c 10 0 2;person d 0 6 1;", 1, 500, row(250, 250, 0, 250), row(3, 3, 3, -1));

        Doc.holds(22, "NONE: not as told, no PERSONS.");
        EarTown x = Kit.of(TWO);
        for (int step : STRANGE) {
            Kit.due("prices(" + step + ")", x.prices(step), -1);
        }
        Kit.due("prices(0)", x.prices(0), -1);
        Kit.due("prices(10)", x.prices(10), -1);
        Kit.due("no price by them", x.price(0), -1);
        for (int step = 1; step <= 9; step++) {
            Kit.due("no PERSONS, prices(" + step + ")", new EarTown().prices(step), -1);
        }
    }

    private static void price() {
        Doc.holds(23, "The price of a hearer by the latest prices() that was not NONE;");
        EarTown x = Kit.of("person a 6 0 0;person b 0 5 0;person c 0 6 0;");
        x.prices(4);
        Kit.due("price(1)", x.price(1), 4);
        x.prices(0);
        Kit.due("behind prices(0)", x.price(1), 4);
        x.prices(10);
        Kit.due("behind prices(10)", x.price(1), 4);
        x.prices(3);
        Kit.due("behind prices(3)", x.price(1), 3);
        Kit.due("of one without an EAR", x.price(0), 0);
        x.hear(2, 0, 6);
        Kit.due("as it was", x.price(1), 3);
        x.prices(3);
        Kit.due("from 0 on again", x.price(1), 0);
        EarTown first = Kit.of("person a 0 5 0;person b 6 0 0;person c 0 6 0;");
        for (int i = 0; i < 3; i++) {
            Kit.due("prices() of the first, once more", first.prices(2), 2);
            Kit.due("price(0)", first.price(0), 2);
            Kit.due("price(2)", first.price(2), 0);
        }

        Doc.holds(23, "NONE: no such one, or ahead of any.");
        Kit.due("price(3) of three", x.price(3), -1);
        for (int p : STRANGE) {
            Kit.due("price(" + p + ")", x.price(p), -1);
        }
        Kit.due("ahead of any", Kit.of(TWO).price(0), -1);
        EarTown y = Kit.of(TWO);
        y.prices(10);
        Kit.due("ahead of any but NONE", y.price(0), -1);
        EarTown eight = Kit.of(persons(8, "9 1 0"));
        eight.prices(1);
        Kit.due("price(7) of eight", eight.price(7) >= 0, true);
        Kit.due("price(8) of eight", eight.price(8), -1);

        Doc.holds(24, "Whom a PERSON wants to be heard by, by it;");
        EarTown z = Kit.of("person a 6 0 0;person b 7 24 0;person c 0 6 0;");
        z.prices(4);
        Kit.due("wants(0)", z.wants(0), 1);
        Kit.due("wants(1), without end", z.wants(1), 2);
        z.prices(11);
        Kit.due("wants(0) behind prices(11)", z.wants(0), 1);

        Doc.holds(24, "NONE: no one, no such one, or ahead of any.");
        Kit.due("without a NEED", z.wants(2), -1);
        Kit.due("no hearer", pricesAre("person a 9 9 0;", 1, 1, row(0), row(-1)).wants(0), -1);
        Kit.due("wants(3) of three", z.wants(3), -1);
        for (int p : STRANGE) {
            Kit.due("wants(" + p + ")", z.wants(p), -1);
        }
        Kit.due("wants(8) of eight", eight.wants(8), -1);
        Kit.due("ahead of any", Kit.of(TWO).wants(0), -1);
        Kit.due("ahead of any but NONE", y.wants(0), -1);
    }

    private static void griefIs(int n, int j, int k, int m, long above, long below) {
        EarTown x = new EarTown();
        String what = "griefs(" + n + ", " + j + ", " + k + ", " + m + ", ";
        Kit.due(what + "0)", x.griefs(n, j, k, m, 0), above);
        Kit.due(what + "1)", x.griefs(n, j, k, m, 1), below);
    }

    private static void griefs() {
        Doc.holds(25, "GRIEFS: each DAY one may come by k of m, which wants g hours.",
                "GRIEFS: the odds that there are just j (0 to 12) in n (1 to 12) DAYS by k of m (m 1 to 6, k 0 to m):");
        griefIs(1, 0, 1, 6, 5, 6);
        griefIs(1, 1, 1, 6, 1, 6);
        griefIs(1, 1, 5, 6, 5, 6);
        griefIs(2, 0, 1, 3, 4, 9);
        griefIs(2, 1, 1, 3, 4, 9);
        griefIs(2, 2, 1, 3, 1, 9);
        griefIs(3, 2, 3, 5, 54, 125);
        griefIs(12, 0, 1, 6, 244140625L, 2176782336L);
        griefIs(12, 12, 1, 6, 1, 2176782336L);
        griefIs(12, 12, 5, 6, 244140625L, 2176782336L);
        griefIs(12, 1, 1, 5, 12L * 4194304, 244140625L);
        griefIs(1, 0, 0, 1, 1, 1);
        griefIs(1, 1, 1, 1, 1, 1);
        griefIs(12, 12, 6, 6, 1, 1);
        griefIs(12, 0, 0, 6, 1, 1);

        Doc.holds(25, "NoSuchElementException: no such ones.");
        EarTown x = new EarTown();
        int[] good = {3, 1, 1, 2, 0};
        for (int i = 0; i < 5; i++) {
            for (int n : STRANGE) {
                int[] c = good.clone();
                c[i] = n;
                Kit.dueThrow("griefs " + java.util.Arrays.toString(c), () -> x.griefs(c[0], c[1], c[2], c[3], c[4]));
            }
        }
        int[][] none = {{0, 0, 1, 2, 0}, {13, 0, 1, 2, 0}, {12, 13, 1, 2, 0}, {3, 1, 3, 2, 0}, {3, 1, 7, 6, 0}, {3, 1, 0, 0, 0},
            {3, 1, 1, 7, 0}, {3, 1, 1, 2, 2}, {3, 1, 1, 0, 1}};
        for (int[] c : none) {
            Kit.dueThrow("griefs " + java.util.Arrays.toString(c), () -> x.griefs(c[0], c[1], c[2], c[3], c[4]));
        }
    }

    private static void griefTerms() {
        Doc.holds(25, "0 above, 1 below, in least terms.");
        griefIs(2, 1, 1, 2, 1, 2);
        griefIs(1, 1, 2, 4, 1, 2);
        griefIs(1, 1, 4, 6, 2, 3);
        griefIs(12, 5, 1, 2, 99, 512);
        griefIs(12, 6, 1, 6, 924L * 15625 / 12, 2176782336L / 12);
        griefIs(12, 6, 3, 6, 231, 1024);
        griefIs(1, 2, 1, 2, 0, 1);
        griefIs(1, 12, 5, 6, 0, 1);
        griefIs(11, 12, 5, 6, 0, 1);
        griefIs(3, 1, 0, 5, 0, 1);
        griefIs(3, 2, 5, 5, 0, 1);
        griefIs(12, 11, 6, 6, 0, 1);
    }

    private static void saved() {
        Doc.holds(26, "SAVED: the fewest hours by which all GRIEFS of n DAYS are met by t of 9 or more.",
                "SAVED against griefs of g (1 to 24) hours, by t (0 to 9) of 9;");
        EarTown x = new EarTown();
        int[] due = {0, 0, 0, 3, 3, 3, 3, 6, 6, 6};
        for (int t = 0; t <= 9; t++) {
            Kit.due("1, 3, 4 of 4, t " + t, x.saved(2, 3, 1, 2, t), due[t]);
        }
        Kit.due("just 6 of 9", x.saved(1, 24, 1, 3, 6), 0);
        Kit.due("7 of 9", x.saved(1, 24, 1, 3, 7), 24);
        Kit.due("just 3 of 9", x.saved(1, 1, 2, 3, 3), 0);
        Kit.due("4 of 9", x.saved(1, 1, 2, 3, 4), 1);
        Kit.due("just 8 of 9", x.saved(2, 5, 1, 3, 8), 5);
        Kit.due("9 of 9", x.saved(2, 5, 1, 3, 9), 10);
        Kit.due("just 4 of 9", x.saved(2, 5, 1, 3, 4), 0);
        Kit.due("5 of 9", x.saved(2, 5, 1, 3, 5), 5);
        Kit.due("no GRIEFS ever", x.saved(12, 24, 0, 6, 9), 0);
        Kit.due("a GRIEF each DAY", x.saved(12, 24, 6, 6, 1), 288);
        Kit.due("by none of 9", x.saved(12, 24, 6, 6, 0), 0);
        Kit.due("all of 12 DAYS", x.saved(12, 24, 1, 6, 9), 288);
        Kit.due("8 of 9 of 12 DAYS", x.saved(12, 24, 1, 6, 8), 96);
    }

    private static void savedOf() {
        Doc.holds(26, "NONE: not as told.");
        EarTown x = new EarTown();
        int[] good = {3, 1, 1, 2, 1};
        for (int i = 0; i < 5; i++) {
            for (int n : STRANGE) {
                int[] c = good.clone();
                c[i] = n;
                Kit.due("saved " + java.util.Arrays.toString(c), x.saved(c[0], c[1], c[2], c[3], c[4]), -1);
            }
        }
        int[][] none = {{0, 1, 1, 2, 1}, {13, 1, 1, 2, 1}, {3, 0, 1, 2, 1}, {3, 25, 1, 2, 1}, {3, 1, 3, 2, 1}, {3, 1, 0, 0, 1},
            {3, 1, 1, 7, 1}, {3, 1, 7, 6, 1}, {3, 1, 1, 2, 10}};
        for (int[] c : none) {
            Kit.due("saved " + java.util.Arrays.toString(c), x.saved(c[0], c[1], c[2], c[3], c[4]), -1);
        }
    }

    private static void sermon() {
        Doc.holds(27, "SERMON of one to a set of others for n hours: it can be, if each by itself could HEAR it so long;");
        EarTown x = Kit.of("person a 5 8 0;person b 3 4 0;person c 9 0 0;person d 0 6 0;");
        Kit.due("to b and d for 4", x.sermon(0, 10, 4), 8);
        Kit.due("to b and d for 5, beyond b's EAR", x.sermon(0, 10, 5), -1001);
        Kit.due("to d for 5, all NEED", x.sermon(0, 8, 5), 5);
        Kit.due("to d for 6, beyond NEED", x.sermon(0, 8, 6), -1001);
        Kit.due("to b, c and d for 1, c without an EAR", x.sermon(0, 14, 1), -1001);
        Kit.due("NEED of b 3, to a and d for 3", x.sermon(1, 9, 3), 6);
        Kit.due("one without NEED", x.sermon(3, 1, 1), -1001);
        x.hear(1, 2, 1);
        Kit.due("b's EAR left", x.sermon(0, 2, 4), -1001);
        EarTown y = Kit.of("person a 5 1 0;person b 3 4 0;owes a b 11;");
        y.days(1);
        Kit.due("of a RUINED one", y.sermon(0, 2, 1), -1001);
        Kit.due("to a RUINED one", y.sermon(1, 1, 1), 0);

        Doc.holds(27, "by how many hours its NOTES to them would be more in all (what they owe it is less first).");
        EarTown z = Kit.of("person a 9 9 0;person b 9 9 0;person c 9 9 0;person d 9 9 0;owes b a 3;owes c a 5;owes a d 7;gift 1;free d;");
        Kit.due("one owes it 3", z.sermon(0, 2, 3), 0);
        Kit.due("just what it owes it", z.sermon(0, 2, 4), 0);
        Kit.due("an hour more", z.sermon(0, 2, 5), 1);
        Kit.due("each by itself", z.sermon(0, 6, 9), 5 + 3);
        Kit.due("one is less, one is more", z.sermon(0, 6, 5), 1);
        Kit.due("to one that it owes", z.sermon(0, 8, 3), 2);
        Kit.due("to all", z.sermon(0, 14, 9), 5 + 3 + 8);
        Kit.due("just the gift", z.sermon(0, 14, 1), 0);
        Kit.due("of one that is free", z.sermon(3, 7, 9), 0);
        EarTown w = Kit.of(persons(3, "9 9 0") + "gift 9;");
        Kit.due("within the gift", w.sermon(0, 6, 9), 0);
        Kit.due("within the gift, fewer", w.sermon(0, 6, 3), 0);

        Doc.holds(27, "SERMON of PERSON p to a set (bits, not p, one at least) for n (1 to 24) hours: hours more that it owes;");
        EarTown v = Kit.of(EIGHT);
        Kit.due("of the last one to all others", v.sermon(7, 127, 24), 168);
        Kit.due("of the first one to all others", v.sermon(0, 254, 24), 168);
        Kit.due("to the last one for an hour", v.sermon(0, 128, 1), 1);
        Kit.due("nobody HEARD it", v.now(7) + v.now(2), 0);
        Kit.due("nothing can be undone", v.undo(), -1);
    }

    private static void sermonRefused() {
        Doc.holds(27, "NONE - 1000: it can't be, no such ones.");
        EarTown x = Kit.of(persons(3, "24 24 0"));
        Kit.due("it can be", x.sermon(0, 6, 24), 48);
        Kit.due("to nobody", x.sermon(0, 0, 1), -1001);
        Kit.due("to itself", x.sermon(0, 1, 1), -1001);
        Kit.due("to itself and others", x.sermon(0, 7, 1), -1001);
        Kit.due("to a fourth one of three", x.sermon(0, 8, 1), -1001);
        Kit.due("to others and a fourth one of three", x.sermon(0, 14, 1), -1001);
        Kit.due("to others and a 32nd", x.sermon(0, Integer.MIN_VALUE | 6, 1), -1001);
        Kit.due("to others and a 31st", x.sermon(0, 1 << 30 | 6, 1), -1001);
        Kit.due("to others and a ninth", x.sermon(0, 256 | 6, 1), -1001);
        Kit.due("for 0", x.sermon(0, 6, 0), -1001);
        Kit.due("for 25", x.sermon(0, 6, 25), -1001);
        Kit.due("of a fourth one of three", x.sermon(3, 6, 1), -1001);
        for (int n : STRANGE) {
            Kit.due("sermon(" + n + ", 6, 1)", x.sermon(n, 6, 1), -1001);
            Kit.due("sermon(0, 6, " + n + ")", x.sermon(0, 6, n), -1001);
            Kit.due("sermon(0, " + n + ", 1)", x.sermon(0, n, 1), -1001);
        }
        Kit.due("of nobody", new EarTown().sermon(0, 1, 1), -1001);
    }

    private static void crowd() {
        Doc.holds(28, "The set of most PERSONS who could HEAR a PERSON for n hours, as bits;");
        EarTown x = Kit.of("person a 5 8 1;person b 3 4 0;person c 24 0 2;person d 0 6 1;");
        Kit.due("a for 1", x.crowd(0, 1), 10);
        Kit.due("a for 4", x.crowd(0, 4), 10);
        Kit.due("a for 5", x.crowd(0, 5), 8);
        Kit.due("a for 6", x.crowd(0, 6), 0);
        Kit.due("c for 8", x.crowd(2, 8), 1);
        Kit.due("c for 24", x.crowd(2, 24), 0);
        Kit.due("d, without NEED", x.crowd(3, 1), 0);
        x.hear(3, 2, 5);
        Kit.due("EARS left", x.crowd(0, 2), 2);
        Kit.due("nobody HEARD it", x.now(7), 1);
        EarTown y = Kit.of("person a 5 1 0;person b 3 4 0;owes a b 11;");
        y.days(1);
        Kit.due("of a RUINED one", y.crowd(0, 1), 0);
        Kit.due("a RUINED one", y.crowd(1, 1), 1);
        EarTown z = Kit.of(EIGHT);
        Kit.due("all but the last", z.crowd(7, 24), 127);
        Kit.due("all but the first", z.crowd(0, 24), 254);

        Doc.holds(28, "NONE: no such ones.");
        for (int n : STRANGE) {
            Kit.due("crowd(" + n + ", 1)", x.crowd(n, 1), -1);
            Kit.due("crowd(0, " + n + ")", x.crowd(0, n), -1);
        }
        Kit.due("crowd(4, 1) of four", x.crowd(4, 1), -1);
        Kit.due("crowd(0, 0)", x.crowd(0, 0), -1);
        Kit.due("crowd(0, 25)", x.crowd(0, 25), -1);
        Kit.due("crowd(0, 1) of nobody", new EarTown().crowd(0, 1), -1);
    }

    private static void sold() {
        Doc.holds(29, "SOLD: a PERSON tells a STORY to all who do not KNOW it, one after another by numbers: hours that come of it.",
                "SOLD by a PERSON;");
        EarTown x = Kit.of(persons(4, "1 1 1") + "story s c 20 5;story t c 9 9;story u a 45 0;story v a 0 0;owes a c 5;");
        Kit.due("20, 15, 10", x.sold(2, 0), 45);
        Kit.due("9, 0, 0", x.sold(2, 1), 9);
        Kit.due("45, 45, 45", x.sold(0, 2), 135);
        Kit.due("0, 0, 0", x.sold(0, 3), 0);
        Kit.due("nothing was told", x.story(0, 2), 0);
        x.tell(2, 1, 0);
        Kit.due("15, 10", x.sold(2, 0), 25);
        Kit.due("by who was told", x.sold(1, 0), 25);
        x.tell(1, 0, 0);
        x.tell(0, 3, 0);
        Kit.due("all KNOW it", x.sold(3, 0), 0);
        EarTown y = Kit.of(EIGHT + "story s d 9 2;");
        Kit.due("9, 7, 5, 3, 1, 0, 0", y.sold(3, 0), 25);
        Kit.due("alone", Kit.of("person a 1 1 1;story s a 9 1;").sold(0, 0), 0);

        Doc.holds(29, "NONE: no such ones, it does not KNOW it.");
        Kit.due("it does not KNOW it", x.sold(1, 1), -1);
        for (int n : STRANGE) {
            Kit.due("sold(" + n + ", 0)", x.sold(n, 0), -1);
            Kit.due("sold(0, " + n + ")", x.sold(0, n), -1);
        }
        Kit.due("sold(4, 0) of four", x.sold(4, 0), -1);
        Kit.due("sold(0, 4) of four", x.sold(0, 4), -1);
        Kit.due("sold(0, 0) of no STORIES", Kit.of(TWO).sold(0, 0), -1);
    }

    private static void best() {
        Doc.holds(30, "The STORY by which a PERSON would have most SOLD (of like ones the first);");
        EarTown x = Kit.of(persons(4, "1 1 1") + "story s c 20 5;story t c 99 0;story u a 0 0;story v c 98 0;story w a 0 9;");
        Kit.due("45, 297, 294", x.best(2), 1);
        Kit.due("0 and 0", x.best(0), 2);
        x.tell(2, 1, 1);
        Kit.due("45, 198, 294", x.best(2), 3);
        Kit.due("by who was told", x.best(1), 1);
        EarTown y = Kit.of(persons(3, "1 1 1") + "story s a 10 0;story t a 12 4;story u a 10 0;");
        Kit.due("20, 20, 20", y.best(0), 0);
        y.tell(0, 1, 0);
        Kit.due("10, 20, 20", y.best(0), 1);
        Kit.due("nothing was told by it", y.story(1, 2), 0);
        EarTown z = Kit.of(persons(2, "1 1 1") + "story o b 1 0;story p b 1 0;story q b 1 0;story r b 1 0;story s b 1 0;"
                + "story t b 1 0;story u b 1 0;story v b 2 0;");
        Kit.due("the eighth", z.best(1), 7);
        Kit.due("alone", Kit.of("person a 1 1 1;story s a 9 1;").best(0), 0);

        Doc.holds(30, "NONE: it KNOWS none, no such one.");
        Kit.due("it KNOWS none", x.best(3), -1);
        for (int p : STRANGE) {
            Kit.due("best(" + p + ")", x.best(p), -1);
        }
        Kit.due("best(4) of four", x.best(4), -1);
        Kit.due("no STORIES", Kit.of(TWO).best(0), -1);
    }

    private static EarTown talkedIs(int persons, String tape, int sets) {
        EarTown x = Kit.of(persons(persons, "0 0 0"));
        Kit.feed(x, tape);
        Kit.due("talked() of " + persons + " PERSONS by " + tape, x.talked(), sets);
        Kit.due("the tape is empty", x.count(4), 0);
        return x;
    }

    private static void talked() {
        Doc.holds(31, "TALKED by the tape (a byte for each PERSON: its balance and 100): how many sets;");
        talkedIs(4, "fbdd", 11);
        talkedIs(4, "dddd", 25);
        talkedIs(1, "d", 1);
        talkedIs(1, "e", 0);
        talkedIs(2, "dd", 1);
        talkedIs(2, "ec", 1);
        talkedIs(2, "ce", 1);
        talkedIs(3, "ddd", 7);
        talkedIs(6, "dddddd", 121);
        talkedIs(2, "\u0000\u00c8", 0);
        talkedIs(2, "\u00ff\u0001", 0);
        talkedIs(2, "dc", 0);
        talkedIs(2, "de", 0);
        talkedIs(2, "  ", 0);

        Doc.holds(31, "NONE: not as told, no PERSONS, more than 6.");
        for (int n = 1; n <= 8; n++) {
            talkedIs(n, "d".repeat(n - 1), -1);
            talkedIs(n, "d".repeat(n + 1), -1);
            talkedIs(n, "", -1);
        }
        talkedIs(7, "ddddddd", -1);
        talkedIs(8, "dddddddd", -1);
        talkedIs(8, "dddddd", -1);
        talkedIs(0, "", -1);
        talkedIs(0, "d", -1);
        talkedIs(4, "d".repeat(940), -1);
    }

    private static void talkSets() {
        Doc.holds(31, "TALKED: from balances (owed to one less what it owes) of all PERSONS, nobody free, no 'gift', no NOTES at first:");
        EarTown x = Kit.of(persons(4, "0 0 0") + "free a;free b;gift 9;owes a b 7;false c;");
        Kit.feed(x, "fbdd");
        Kit.due("sets", x.talked(), 11);
        Kit.due("it is owed to who HEARS", x.talk(0, 0) * 10 + x.talk(0, 1), 1);
        Kit.feed(x, "bfdd");
        x.talked();
        Kit.due("the other way", x.talk(0, 0) * 10 + x.talk(0, 1), 10);

        Doc.holds(31, "sets of 3 talks at most (who HEARS whom for 1 to 3 hours; no two PERSONS more than once, whoever HEARS), by which they come (EARS, NEEDS counting nothing).");
        talkedIs(2, "ga", 1);
        talkedIs(2, "h`", 0);
        talkedIs(2, "dd", 1);
        talkedIs(3, "h`d", 3);
        talkedIs(3, "gad", 4);
        talkedIs(4, "hfaa", 5);
        talkedIs(4, "maaa", 1);
        talkedIs(5, "paaaa", 0);
        talkedIs(4, "naa`", 0);
        talkedIs(6, "gagaga", 6);
        EarTown y = Kit.of("person a 0 0 0;person b 99 24 0;");
        Kit.feed(y, "ga");
        Kit.due("no EAR, no NEED", y.talked(), 1);
        EarTown z = Kit.of("person a 0 0 0;person b 0 0 0;owes a b 11;");
        z.days(1);
        Kit.feed(z, "ag");
        Kit.due("RUINED", z.talked(), 1);
    }

    private static void talkIs(EarTown x, String tape, int... due) {
        Kit.feed(x, tape);
        x.talked();
        for (int i = 0; i < due.length; i++) {
            Kit.due("talk(" + i / 3 + ", " + i % 3 + ") of " + tape, x.talk(i / 3, i % 3), due[i]);
        }
        for (int what = 0; what < 3; what++) {
            Kit.due("talk() behind it of " + tape, x.talk(due.length / 3, what), -1);
        }
    }

    private static void talk() {
        Doc.holds(32, "Talk i of the first such set by the latest talked() that was 1 or more "
                + "(sets of fewer talks ahead, then talk by talk by who HEARS, whom, hours; each set rising): 0 who HEARS, 1 whom, 2 hours.");
        EarTown x = Kit.of(persons(4, "0 0 0"));
        talkIs(x, "fbdd", 0, 1, 2);
        talkIs(x, "bfdd", 1, 0, 2);
        talkIs(x, "hcad", 0, 1, 1, 0, 2, 3);
        talkIs(x, "cfcd", 0, 2, 1, 1, 0, 2);
        talkIs(x, "maaa", 0, 1, 3, 0, 2, 3, 0, 3, 3);
        talkIs(x, "egca", 0, 2, 1, 1, 3, 3);
        talkIs(x, "eecc", 0, 2, 1, 1, 3, 1);
        talkIs(x, "ffbb", 0, 2, 2, 1, 3, 2);
        talkIs(x, "hfaa", 0, 1, 1, 0, 2, 3, 1, 3, 3);
        talkIs(x, "dddd");
        EarTown y = Kit.of(persons(3, "0 0 0"));
        talkIs(y, "h`d", 0, 1, 1, 0, 2, 3, 2, 1, 3);
        talkIs(y, "gad", 0, 1, 3);
        EarTown z = Kit.of(persons(6, "0 0 0"));
        talkIs(z, "gagaga", 0, 1, 3, 2, 3, 3, 4, 5, 3);
        talkIs(z, "ddddag", 5, 4, 3);
        Kit.feed(z, "eeeeee");
        Kit.due("no such set", z.talked(), 0);
        Kit.due("the latest that was 1 or more", z.talk(0, 0), 5);
        Kit.feed(z, "ddddd");
        Kit.due("not as told", z.talked(), -1);
        Kit.due("the latest that was 1 or more", z.talk(0, 1), 4);
        Kit.town(z, persons(2, "0 0 0"));
        Kit.due("in another TOWN", z.talk(0, 2), 3);

        Doc.holds(32, "NONE: there is none such, or ahead of any.");
        Kit.due("talk(1, 0) of one", z.talk(1, 0), -1);
        Kit.due("talk(3, 0)", z.talk(3, 0), -1);
        Kit.due("talk(0, 3)", z.talk(0, 3), -1);
        for (int n : STRANGE) {
            Kit.due("talk(" + n + ", 0)", z.talk(n, 0), -1);
            Kit.due("talk(0, " + n + ")", z.talk(0, n), -1);
        }
        EarTown w = Kit.of(persons(2, "0 0 0"));
        Kit.due("ahead of any", w.talk(0, 0), -1);
        Kit.feed(w, "ee");
        w.talked();
        Kit.due("ahead of any that was 1 or more", w.talk(0, 0), -1);
        Kit.feed(w, "dd");
        w.talked();
        Kit.due("a set of no talks", w.talk(0, 0), -1);
    }

    /** The draws once more, by numbers that do not wrap. */
    private static int drawnBySteps(EarTown x, int days, int talks, int seed) {
        long at = seed & 0xffffffffL;
        int persons = x.count(0);
        int done = 0;
        for (int day = 0; day < days; day++) {
            for (int t = 0; t < talks; t++) {
                int[] draw = {persons, persons, 3};
                for (int i = 0; i < 3; i++) {
                    at = (at * 1103515245L + 12345L) % (1L << 32);
                    draw[i] = (int) (at / 256 % draw[i]);
                }
                done += x.hear(draw[0], draw[1], draw[2] + 1) == 0 ? 1 : 0;
            }
            x.days(1);
        }
        return done;
    }

    private static void drawn() {
        Doc.holds(33, "DRAWN by a seed x: for each draw of n x becomes x * 1103515245 + 12345 (an int, wrapping), the draw is (x >>> 8) % n: "
                + "each DAY so many talks: draws of all PERSONS (who HEARS), of all (whom), of 3 and 1 more (hours): done, if it can be; then the DAY goes.");
        String[] towns = {persons(3, "9 9 3") + "false b;", persons(8, "24 9 1") + "free c;gift 1;ruin 1;", persons(7, "3 2 0"),
            persons(2, "99 24 9") + "owes a b 7;"};
        int[] seeds = {0, 1, -1, 123456789, Integer.MIN_VALUE, Integer.MAX_VALUE, -987654321};
        for (String town : towns) {
            for (int seed : seeds) {
                EarTown x = Kit.of(town);
                EarTown y = Kit.of(town);
                Kit.due("talks done by " + seed, x.drawn(4, 9, seed), drawnBySteps(y, 4, 9, seed));
                Kit.due("the DAY by " + seed, x.now(0), 4);
                long[] all = EdgesOfLife.all(x);
                long[] due = EdgesOfLife.all(y);
                for (int i = 0; i < all.length; i++) {
                    Kit.due("answer " + i + " by " + seed, all[i], due[i]);
                }
            }
        }

        Doc.holds(33, "n (1 to 60) DAYS of m (1 to 9) talks DRAWN by a seed: how many talks were done;");
        EarTown z = Kit.of(persons(3, "99 24 9"));
        int done = z.drawn(60, 9, 5);
        Kit.due("60 DAYS", z.now(0), 60);
        Kit.due("talks done", z.now(7), done);
        Kit.due("some", done > 100, true);
        Kit.due("one of them", z.drawn(1, 1, 3) >= 0, true);
        Kit.due("a DAY more", z.now(0), 61);
        Kit.due("undone", z.undo(), 1);
        Kit.due("all 60", z.undo(), 0);
        Kit.due("the DAY", z.now(0) + z.now(7), 0);
        EarTown w = Kit.of("person a 9 9 0;");
        Kit.due("nobody else to HEAR", w.drawn(3, 9, 1), 0);
        Kit.due("the DAYS go", w.now(0), 3);
    }

    private static void drawnRefused() {
        Doc.holds(33, "NONE: not as told, no PERSONS, the DAY would be above 9999.");
        EarTown x = Kit.of(persons(3, "9 9 3"));
        for (int n : STRANGE) {
            if (n < 1 || n > 60) {
                Kit.due("drawn(" + n + ", 1, 1)", x.drawn(n, 1, 1), -1);
            }
            Kit.due("drawn(1, " + n + ", 1)", x.drawn(1, n, 1), -1);
        }
        Kit.due("drawn(0, 1, 1)", x.drawn(0, 1, 1), -1);
        Kit.due("drawn(61, 1, 1)", x.drawn(61, 1, 1), -1);
        Kit.due("drawn(1, 0, 1)", x.drawn(1, 0, 1), -1);
        Kit.due("drawn(1, 10, 1)", x.drawn(1, 10, 1), -1);
        Kit.due("no PERSONS", new EarTown().drawn(1, 1, 1), -1);
        Kit.due("nothing went", x.now(0) + x.now(7), 0);
        Kit.due("nothing can be undone", x.undo(), -1);
        EarTown late = EdgesOfLife.lateTown(9940);
        Kit.due("60 DAYS to 10000", late.drawn(60, 1, 1), -1);
        Kit.due("the DAY stays", late.now(0), 9940);
        Kit.due("59 DAYS to 9999", late.drawn(59, 1, 1), 0);
        Kit.due("the DAY", late.now(0), 9999);
        Kit.due("one more", late.drawn(1, 1, 1), -1);
    }

    private static void odds() {
        Doc.holds(34, "Of n (1 to 50) seeds x, x and 1, .. by how many a PERSON is RUINED behind 30 DAYS of 4 talks DRAWN from now on;");
        String town = persons(4, "9 9 3") + "person e 9 1 3;ruin 1;owes a b 5;";
        int[] due = new int[5];
        int all = 0;
        for (int i = 0; i < 50; i++) {
            EarTown x = Kit.of(town);
            x.drawn(2, 2, 9);
            x.drawn(30, 4, Integer.MAX_VALUE - 3 + i);
            for (int p = 0; p < 5; p++) {
                due[p] += x.person(p, 6);
                all += x.person(p, 6);
            }
            if (i == 0 || i == 6 || i == 49) {
                EarTown y = Kit.of(town);
                y.drawn(2, 2, 9);
                for (int p = 0; p < 5; p++) {
                    Kit.due("odds(" + p + ", " + (i + 1) + ", ..)", y.odds(p, i + 1, Integer.MAX_VALUE - 3), due[p]);
                }
                Kit.due("all stays", y.now(0), 2);
                Kit.due("it is no act", y.undo(), 0);
            }
        }
        Kit.due("some are RUINED, some not", all > 10 && all < 240, true);
        EarTown z = Kit.of("person a 5 1 0;person b 3 4 0;owes a b 11;");
        Kit.due("RUINED by the first DAY", z.odds(0, 50, 7), 50);
        Kit.due("never", z.odds(1, 50, 7), 0);
        z.days(1);
        Kit.due("RUINED already", z.odds(0, 1, 7), 1);

        Doc.holds(34, "NONE: not as told, no such one, the DAY would be above 9999.");
        for (int n : STRANGE) {
            Kit.due("odds(" + n + ", 1, 1)", z.odds(n, 1, 1), -1);
            if (n < 1 || n > 50) {
                Kit.due("odds(0, " + n + ", 1)", z.odds(0, n, 1), -1);
            }
        }
        Kit.due("odds(2, 1, 1) of two", z.odds(2, 1, 1), -1);
        Kit.due("odds(0, 0, 1)", z.odds(0, 0, 1), -1);
        Kit.due("odds(0, 51, 1)", z.odds(0, 51, 1), -1);
        Kit.due("no PERSONS", new EarTown().odds(0, 1, 1), -1);
        EarTown late = EdgesOfLife.lateTown(9960);
        late.days(9);
        Kit.due("to 9999", late.odds(0, 1, 1), 0);
        late.days(1);
        Kit.due("to 10000", late.odds(0, 1, 1), -1);
    }
}
