/** Promises 14, 15, 17, 18, 20 to 34: rings, hours, prices, griefs, sermons, stories sold, talks, draws. */
public final class ReckonTest {
    public static void main(String[] args) {
        rings();
        strikes();
        hours();
        prices();
        griefs();
        saved();
        sermons();
        sales();
        talked();
        drawn();
        odds();
        Kit.finish();
    }

    private static String persons(int n, String numbers) {
        StringBuilder text = new StringBuilder();
        for (int i = 0; i < n; i++) {
            text.append("person ").append((char) ('a' + i)).append(' ').append(numbers).append(';');
        }
        return text.toString();
    }

    /** Notes as "ab3" for owes a b 3. */
    private static String notes(String row) {
        StringBuilder text = new StringBuilder();
        for (String note : row.split(" ")) {
            text.append("owes ").append(note.charAt(0)).append(' ').append(note.charAt(1)).append(' ');
            text.append(note.substring(2)).append(';');
        }
        return text.toString();
    }

    private static void ringIs(String row, int... ring) {
        EarTown x = Kit.of(persons(8, "1 1 1") + notes(row));
        Kit.due("ring of " + row, x.ring(), ring.length);
        for (int i = 0; i < ring.length; i++) {
            Kit.due("ringAt(" + i + ") of " + row, x.ringAt(i), ring[i]);
        }
        Kit.due("ringAt behind it of " + row, x.ringAt(ring.length), -1);
        Kit.due("ringAt(-1)", x.ringAt(-1), -1);
    }

    private static void rings() {
        Kit.due("ahead of any", new EarTown().ringAt(0), -1);
        ringIs("ab1 bc1 cd1");
        ringIs("ab1 bc1 ac1");
        ringIs("ab1 bc1 ca1", 0, 1, 2);
        ringIs("ba1 cb1 ac1", 0, 2, 1);
        ringIs("ab1 bc1 cd1 da1", 0, 1, 2, 3);
        ringIs("ab1 bc1 cd1 da1 fg1 gh1 hf1", 5, 6, 7);
        ringIs("ab1 bc1 cd1 da1 db1", 1, 2, 3);
        ringIs("ac1 ch1 ha1 ab1 bg1 ga1", 0, 1, 6);
        ringIs("ab1 bh1 ha1 bd1 da1", 0, 1, 3);
        ringIs("bc1 ch1 hb1 ad1 de1 ea1", 0, 3, 4);
        ringIs("ah1 hg1 gf1 fe1 ed1 dc1 cb1 ba1", 0, 7, 6, 5, 4, 3, 2, 1);
        ringIs("hg1 gf1 fh1", 5, 7, 6);
        EarTown x = Kit.of(persons(3, "1 1 1") + notes("ab1 bc1 ca1"));
        x.ring();
        x.strike();
        Kit.due("the latest ring() still", x.ringAt(2), 2);
        Kit.due("no ring", x.ring(), 0);
        Kit.due("none such now", x.ringAt(0), -1);
    }

    private static void strikes() {
        EarTown x = Kit.of(persons(5, "1 1 1") + notes("ab3 bc2 ca4 cd5 da7 de1"));
        Kit.due("ahead of any", x.struck(), -1);
        Kit.due("rings", x.strike(), 1);
        Kit.due("hours", x.struck(), 6);
        Kit.due("a b", x.owes(0, 1), 1);
        Kit.due("b c", x.owes(1, 2), 0);
        Kit.due("c a", x.owes(2, 0), 2);
        Kit.due("d a", x.owes(3, 0), 7);
        Kit.due("now(6)", x.now(6), 6);
        Kit.due("again", x.strike(), 0);
        Kit.due("no hours", x.struck(), 0);
        Kit.due("one act", x.undo(), 0);
        Kit.due("hours of the latest", x.struck(), 0);
        EarTown y = Kit.of(persons(5, "1 1 1") + notes("ab9 bc5 ca2 cd4 da3 be8 ea8"));
        Kit.due("two rings", y.strike(), 2);
        Kit.due("shortest first", y.struck(), 2 * 3 + 7 * 3);
        Kit.due("a b ended", y.owes(0, 1), 0);
    }

    private static void hourIs(String town, int met, int... with) {
        EarTown x = Kit.of(town);
        Kit.due("hour of " + town, x.hour(), met);
        for (int p = 0; p < with.length; p++) {
            Kit.due("with(" + p + ") of " + town, x.with(p), with[p]);
        }
        Kit.due("no such one", x.with(with.length), -1);
        Kit.due("nor -1", x.with(-1), -1);
        Kit.due("nobody heard", x.now(7), 0);
    }

    private static void hours() {
        EarTown x = Kit.of(persons(2, "1 1 1"));
        Kit.due("ahead of any", x.with(0), -1);
        Kit.due("an empty TOWN", new EarTown().hour(), 0);
        hourIs("person a 5 5 0;", 0, 0);
        hourIs("person a 4 5 0;person b 2 3 0;person c 0 9 0;", 4, 101, 200, 0);
        hourIs("person a 2 5 0;person b 2 3 0;", 2, 101, 200);
        hourIs("person a 2 5 0;person b 3 3 0;", 3, 201, 100);
        hourIs("person a 2 0 0;person b 3 0 0;", 0, 0, 0);
        hourIs("person a 2 0 0;person b 3 1 0;person c 7 0 0;", 7, 0, 202, 101);
        hourIs(persons(4, "1 1 0"), 2, 101, 200, 103, 202);
        hourIs(persons(3, "1 1 0"), 1, 0, 102, 201);
        hourIs("person a 5 8 1;person b 3 4 0;person c 10 0 2;person d 0 6 1;false d;", 15, 101, 200, 103, 202);
        hourIs("person a 9 0 0;person b 9 0 0;person c 0 1 0;person d 0 1 0;", 18, 102, 103, 200, 201);
        hourIs("person a 9 0 0;person b 1 0 0;person c 0 1 0;person d 8 0 0;person e 0 1 0;", 17, 102, 0, 200, 104, 203);
        hourIs("person a 1 0 0;person b 0 1 0;", 1, 101, 200);
        hourIs(persons(8, "9 1 0"), 36, 101, 200, 103, 202, 105, 204, 107, 206);
        EarTown y = Kit.of("person a 50 1 0;person b 3 4 0;owes a b 11;");
        y.days(1);
        Kit.due("a ruined one is not heard", y.hour(), 3);
        Kit.due("it hears", y.with(0), 201);
        EarTown z = Kit.of("person a 50 1 0;person b 3 4 0;owes a b 11;free a;");
        z.days(1);
        Kit.due("a free one is", z.hour(), 50);
        z.hear(1, 0, 4);
        Kit.due("ears left count", z.hour(), 3);
        Kit.due("as it is now", z.with(0), 201);
    }

    private static void pricesAre(String town, int step, int rounds, int[] prices, int[] wants) {
        EarTown x = Kit.of(town);
        Kit.due("prices of " + town, x.prices(step), rounds);
        for (int p = 0; p < prices.length; p++) {
            Kit.due("price(" + p + ") of " + town, x.price(p), prices[p]);
            Kit.due("wants(" + p + ") of " + town, x.wants(p), wants[p]);
        }
        Kit.due("no such price", x.price(prices.length), -1);
        Kit.due("price(-1)", x.price(-1), -1);
        Kit.due("no such wants", x.wants(prices.length), -1);
        Kit.due("wants(-1)", x.wants(-1), -1);
        Kit.due("prices(0)", x.prices(0), -1);
        Kit.due("prices(10)", x.prices(10), -1);
        Kit.due("as before", x.price(0), prices[0]);
        Kit.town(x, "gift 1;");
        Kit.due("no PERSONS", x.prices(1), -1);
        Kit.due("as before still", x.price(0), prices[0]);
    }

    private static int[] row(int... numbers) {
        return numbers;
    }

    private static void prices() {
        EarTown x = Kit.of(persons(2, "1 1 1"));
        Kit.due("ahead of any price", x.price(0), -1);
        Kit.due("ahead of any wants", x.wants(0), -1);
        pricesAre("person a 4 5 0;person b 2 3 0;person c 0 9 0;", 2, 2, row(0, 2, 0), row(2, 0, -1));
        pricesAre("person a 0 5 0;person b 0 3 0;", 9, 1, row(0, 0), row(-1, -1));
        pricesAre("person a 9 0 0;person b 9 0 0;", 1, 1, row(0, 0), row(-1, -1));
        pricesAre("person a 3 5 0;person b 0 3 0;", 1, 1, row(0, 0), row(1, -1));
        pricesAre("person a 4 5 0;person b 0 3 0;", 9, 500, row(0, 4500), row(1, -1));
        pricesAre("person a 5 8 1;person b 3 4 0;person c 10 0 2;person d 0 6 1;", 1, 500,
                row(250, 250, 0, 250), row(3, 3, 3, -1));
        pricesAre("person a 1 0 0;person b 0 1 0;", 3, 1, row(0, 0), row(1, -1));
        pricesAre("person a 2 0 0;person b 0 1 0;person c 0 2 0;", 3, 2, row(0, 3, 0), row(2, -1, -1));
        pricesAre(persons(8, "1 24 0"), 1, 1, row(0, 0, 0, 0, 0, 0, 0, 0), row(1, 0, 0, 0, 0, 0, 0, 0));
        pricesAre(persons(6, "3 0 0") + "person g 3 17 0;person h 0 21 0;", 4, 2,
                row(0, 0, 0, 0, 0, 0, 4, 0), row(7, 7, 7, 7, 7, 7, 7, -1));
        EarTown y = Kit.of("person a 4 5 9;person b 0 9 0;");
        y.hear(1, 0, 3);
        Kit.due("ears as told", y.prices(1), 1);
        y.days(1);
        Kit.due("needs now", y.prices(1), 500);
    }

    private static void griefIs(int n, int j, int k, int m, long above, long below) {
        EarTown x = new EarTown();
        String what = "griefs(" + n + ", " + j + ", " + k + ", " + m + ")";
        Kit.due(what, x.griefs(n, j, k, m, 0), above);
        Kit.due(what + " below", x.griefs(n, j, k, m, 1), below);
    }

    private static void griefs() {
        griefIs(2, 1, 1, 2, 1, 2);
        griefIs(2, 0, 1, 3, 4, 9);
        griefIs(1, 2, 1, 2, 0, 1);
        griefIs(1, 12, 1, 2, 0, 1);
        griefIs(3, 0, 0, 5, 1, 1);
        griefIs(3, 0, 0, 1, 1, 1);
        griefIs(12, 12, 1, 1, 1, 1);
        griefIs(3, 1, 0, 5, 0, 1);
        griefIs(3, 3, 5, 5, 1, 1);
        griefIs(3, 2, 5, 5, 0, 1);
        griefIs(1, 1, 4, 6, 2, 3);
        griefIs(12, 6, 1, 6, 924L * 15625 / 12, 2176782336L / 12);
        griefIs(12, 0, 1, 6, 244140625L, 2176782336L);
        griefIs(12, 12, 1, 6, 1, 2176782336L);
        griefIs(12, 5, 1, 2, 99, 512);
        EarTown x = new EarTown();
        int[][] none = {{0, 0, 1, 2, 0}, {13, 0, 1, 2, 0}, {1, -1, 1, 2, 0}, {1, 13, 1, 2, 0}, {1, 0, -1, 2, 0},
            {1, 0, 3, 2, 0}, {1, 0, 0, 0, 0}, {1, 0, 1, 7, 0}, {1, 0, 1, 2, 2}, {1, 0, 1, 2, -1}};
        for (int[] c : none) {
            Kit.dueThrow("griefs", () -> x.griefs(c[0], c[1], c[2], c[3], c[4]));
        }
    }

    private static void saved() {
        EarTown x = new EarTown();
        Kit.due("all", x.saved(2, 3, 1, 2, 9), 6);
        Kit.due("7 of 9", x.saved(2, 3, 1, 2, 7), 6);
        Kit.due("6 of 9", x.saved(2, 3, 1, 2, 6), 3);
        Kit.due("2 of 9", x.saved(2, 3, 1, 2, 2), 0);
        Kit.due("3 of 9", x.saved(2, 3, 1, 2, 3), 3);
        Kit.due("just so many", x.saved(1, 24, 1, 3, 6), 0);
        Kit.due("one more", x.saved(1, 24, 1, 3, 7), 24);
        Kit.due("no griefs", x.saved(12, 24, 0, 6, 9), 0);
        Kit.due("griefs each day", x.saved(12, 24, 6, 6, 1), 288);
        Kit.due("griefs each day, by none of 9", x.saved(12, 24, 6, 6, 0), 0);
        Kit.due("long", x.saved(12, 1, 1, 6, 8), 4);
        int[][] none = {{0, 1, 1, 2, 1}, {13, 1, 1, 2, 1}, {1, 0, 1, 2, 1}, {1, 25, 1, 2, 1}, {1, 1, -1, 2, 1},
            {1, 1, 3, 2, 1}, {1, 1, 0, 0, 1}, {1, 1, 1, 7, 1}, {1, 1, 1, 2, -1}, {1, 1, 1, 2, 10}};
        for (int[] c : none) {
            Kit.due("saved not as told", x.saved(c[0], c[1], c[2], c[3], c[4]), -1);
        }
    }

    private static void sermons() {
        EarTown x = Kit.of("person a 5 8 1;person b 3 4 0;person c 10 0 2;person d 0 6 1;"
                + "owes a b 3;owes b c 2;owes c a 4;free c;false d;gift 1;ruin 2;");
        Kit.due("to two", x.sermon(0, 10, 4), 6);
        Kit.due("one has no ear", x.sermon(0, 14, 4), -1001);
        Kit.due("too long for one", x.sermon(0, 10, 5), -1001);
        Kit.due("long enough for the other", x.sermon(0, 8, 5), 4);
        Kit.due("need", x.sermon(0, 8, 6), -1001);
        Kit.due("what they owe it is less first", x.sermon(1, 1, 3), 0);
        Kit.due("in part", x.sermon(1, 9, 3), 2);
        Kit.due("a free one owes nothing", x.sermon(2, 11, 4), 0);
        Kit.due("nobody", x.sermon(0, 0, 1), -1001);
        Kit.due("itself", x.sermon(0, 3, 1), -1001);
        Kit.due("no such one in the set", x.sermon(0, 16, 1), -1001);
        Kit.due("nor the sign", x.sermon(0, Integer.MIN_VALUE | 2, 1), -1001);
        Kit.due("no such one", x.sermon(4, 1, 1), -1001);
        Kit.due("nor -1", x.sermon(-1, 1, 1), -1001);
        Kit.due("n 0", x.sermon(0, 2, 0), -1001);
        Kit.due("n 25", x.sermon(0, 2, 25), -1001);
        Kit.due("all stays", x.now(7), 0);
        Kit.due("crowd(0, 1)", x.crowd(0, 1), 10);
        Kit.due("crowd(0, 5)", x.crowd(0, 5), 8);
        Kit.due("crowd(0, 6)", x.crowd(0, 6), 0);
        Kit.due("crowd(2, 8)", x.crowd(2, 8), 1);
        Kit.due("crowd(2, 2)", x.crowd(2, 2), 11);
        Kit.due("crowd(4, 1)", x.crowd(4, 1), -1);
        Kit.due("crowd(-1, 1)", x.crowd(-1, 1), -1);
        Kit.due("crowd(0, 0)", x.crowd(0, 0), -1);
        Kit.due("crowd(0, 25)", x.crowd(0, 25), -1);
        EarTown y = Kit.of("person a 9 1 0;person b 9 9 0;owes b a 3;");
        Kit.due("beyond what is owed", y.sermon(0, 2, 5), 2);
        EarTown z = Kit.of("person a 5 1 0;person b 3 4 0;owes a b 11;");
        z.days(1);
        Kit.due("ruined", z.sermon(0, 2, 1), -1001);
        Kit.due("no crowd", z.crowd(0, 1), 0);
    }

    private static void sales() {
        EarTown x = Kit.of(persons(4, "1 1 1") + "story s c 20 5;story t c 9 9;story u a 45 0;story v c 30 9;owes a c 5;");
        Kit.due("sold", x.sold(2, 0), 20 + 15 + 10);
        Kit.due("0 at least", x.sold(2, 1), 9);
        Kit.due("no falls", x.sold(0, 2), 135);
        Kit.due("it does not know it", x.sold(0, 0), -1);
        Kit.due("no such story", x.sold(0, 4), -1);
        Kit.due("no story -1", x.sold(0, -1), -1);
        Kit.due("no such one", x.sold(4, 0), -1);
        Kit.due("best", x.best(2), 3);
        Kit.due("best of one", x.best(0), 2);
        Kit.due("knows none", x.best(1), -1);
        Kit.due("no such one's best", x.best(4), -1);
        Kit.due("best(-1)", x.best(-1), -1);
        x.tell(2, 1, 0);
        Kit.due("told once", x.sold(2, 0), 15 + 10);
        Kit.due("by who was told", x.sold(1, 0), 15 + 10);
        x.tell(1, 0, 0);
        x.tell(1, 3, 0);
        Kit.due("all know it", x.sold(3, 0), 0);
        Kit.due("best of nothing", x.best(1), 0);
        Kit.due("all stays", x.story(0, 2), 3);
        EarTown z = Kit.of(persons(8, "9 9 1") + "story s h 1 0;story t h 1 0;story u h 1 0;story v h 1 0;"
                + "story w h 1 0;story x h 1 0;story y h 1 0;story z h 9 0;");
        Kit.due("the eighth", z.best(7), 7);
        Kit.due("to seven", z.sold(7, 7), 63);
        Kit.due("all but it", z.crowd(7, 9), 127);
        Kit.due("the eighth too", z.crowd(0, 9), 254);
        Kit.due("a sermon to seven", z.sermon(7, 127, 2), 14);
        Kit.due("told to the eighth", z.tell(7, 0, 7), 9);
        EarTown y = Kit.of(persons(3, "1 1 1") + "story s a 10 0;story t a 12 4;story u a 10 0;");
        Kit.due("of like ones the first", y.best(0), 0);
    }

    private static void talkedIs(EarTown x, String tape, int sets, int... talks) {
        Kit.feed(x, tape);
        Kit.due("talked of " + tape, x.talked(), sets);
        Kit.due("the tape is empty", x.count(4), 0);
        for (int i = 0; i < talks.length; i++) {
            Kit.due("talk(" + i / 3 + ", " + i % 3 + ") of " + tape, x.talk(i / 3, i % 3), talks[i]);
        }
        Kit.due("no talk behind of " + tape, x.talk(talks.length / 3, 0), -1);
    }

    private static void talked() {
        EarTown x = Kit.of(persons(4, "0 0 0") + "free a;gift 5;owes a b 7;");
        Kit.due("ahead of any", x.talk(0, 0), -1);
        talkedIs(x, "fbdd", 11, 0, 1, 2);
        Kit.due("what 3", x.talk(0, 3), -1);
        Kit.due("what -1", x.talk(0, -1), -1);
        Kit.due("talk(-1, 0)", x.talk(-1, 0), -1);
        talkedIs(x, "dddd", 25);
        talkedIs(x, "gahd", 0);
        talkedIs(x, "hcad", 5, 0, 1, 1, 0, 2, 3);
        talkedIs(x, "eeee", 0, new int[] {0, 1, 1, 0, 2, 3});
        talkedIs(x, "ddd", -1, 0, 1, 1, 0, 2, 3);
        talkedIs(x, "ddddd", -1, 0, 1, 1, 0, 2, 3);
        talkedIs(x, "", -1, 0, 1, 1, 0, 2, 3);
        talkedIs(x, "hacd", 5, 0, 1, 3, 0, 2, 1);
        talkedIs(x, "dddd", 25);
        talkedIs(x, "maaa", 1, 0, 1, 3, 0, 2, 3, 0, 3, 3);
        Kit.town(x, persons(1, "0 0 0"));
        talkedIs(x, "d", 1);
        talkedIs(x, "e", 0);
        Kit.town(x, persons(7, "0 0 0"));
        talkedIs(x, "ddddddd", -1);
        Kit.town(x, persons(6, "0 0 0"));
        talkedIs(x, "dddddd", 1 + 20 * 2 * 3);
        talkedIs(x, "ecgafb", 1 + 0, 0, 1, 1, 2, 3, 3, 4, 5, 2);
        Kit.town(x, "gift 1;");
        talkedIs(x, "", -1, 0, 1, 1, 2, 3, 3, 4, 5, 2);
        Kit.town(x, persons(2, "0 0 0"));
        talkedIs(x, "ag", 1, 1, 0, 3);
        talkedIs(x, "`h", 0, 1, 0, 3);
    }

    private static void drawn() {
        EarTown x = Kit.of(persons(3, "9 9 3") + "false b;");
        Kit.due("n 0", x.drawn(0, 1, 1), -1);
        Kit.due("n 61", x.drawn(61, 1, 1), -1);
        Kit.due("m 0", x.drawn(1, 0, 1), -1);
        Kit.due("m 10", x.drawn(1, 10, 1), -1);
        Kit.due("no PERSONS", new EarTown().drawn(1, 1, 1), -1);
        Kit.due("nothing to undo", x.undo(), -1);
        int done = 0;
        EarTown y = Kit.of(persons(3, "9 9 3") + "false b;");
        int seed = 123456789;
        for (int day = 0; day < 5; day++) {
            for (int t = 0; t < 7; t++) {
                seed = seed * 1103515245 + 12345;
                int a = (seed >>> 8) % 3;
                seed = seed * 1103515245 + 12345;
                int b = (seed >>> 8) % 3;
                seed = seed * 1103515245 + 12345;
                int n = (seed >>> 8) % 3 + 1;
                done += y.hear(a, b, n) == 0 ? 1 : 0;
            }
            y.days(1);
        }
        Kit.due("done", x.drawn(5, 7, 123456789), done);
        for (int what = 0; what < 8; what++) {
            Kit.due("now(" + what + ") as by hand", x.now(what), y.now(what));
        }
        for (int p = 0; p < 3; p++) {
            for (int what = 0; what < 11; what++) {
                Kit.due("person as by hand", x.person(p, what), y.person(p, what));
            }
        }
        Kit.due("one act", x.undo(), 0);
        Kit.due("day 0 again", x.now(0) + x.now(7), 0);
        EarTown z = Kit.of("person a 0 0 0;");
        Kit.due("nobody to talk to", z.drawn(60, 9, -5), 0);
        Kit.due("the days went", z.now(0), 60);
        Kit.due("it is an act", z.undo(), 0);
        for (int i = 0; i < 332; i++) {
            z.days(30);
        }
        Kit.due("above 9999", z.drawn(40, 1, 1), -1);
        Kit.due("to 9999", z.drawn(39, 1, 1), 0);
    }

    private static void odds() {
        EarTown x = Kit.of(persons(4, "9 9 3") + "person e 9 1 3;ruin 1;owes a b 5;");
        Kit.due("n 0", x.odds(0, 0, 1), -1);
        Kit.due("n 51", x.odds(0, 51, 1), -1);
        Kit.due("no such one", x.odds(5, 1, 1), -1);
        Kit.due("nor -1", x.odds(-1, 1, 1), -1);
        int[] ruined = new int[5];
        x.image(0);
        for (int i = 0; i < 20; i++) {
            x.restore(0);
            x.drawn(30, 4, Integer.MAX_VALUE - 3 + i);
            for (int p = 0; p < 5; p++) {
                ruined[p] += x.person(p, 6);
            }
        }
        x.restore(0);
        int all = 0;
        for (int p = 0; p < 5; p++) {
            Kit.due("odds(" + p + ")", x.odds(p, 20, Integer.MAX_VALUE - 3), ruined[p]);
            all += ruined[p];
        }
        Kit.due("some are ruined, some not", all > 0 && all < 100, true);
        Kit.due("all stays", x.now(0) + x.now(7) + x.now(4), 0);
        Kit.due("it is no act", x.undo(), -1);
        EarTown y = Kit.of("person a 5 1 0;person b 3 4 0;owes a b 11;");
        y.days(1);
        Kit.due("ruined already", y.odds(0, 50, 7), 50);
        for (int i = 0; i < 332; i++) {
            y.days(30);
        }
        y.days(8);
        Kit.due("to 9999", y.odds(0, 1, 7), 1);
        y.days(1);
        Kit.due("above 9999", y.odds(0, 1, 7), -1);
    }
}
