/** Promises 1 to 5, 31's tape, 36, 38, 42: the tape, and the FAULTS of all texts. */
public final class TextsTest {
    private static final String PERSONS = "person a 1 1 1;person b 1 1 1;";

    public static void main(String[] args) {
        newObject();
        tape();
        tokens();
        townFaults();
        townNames();
        townLimits();
        bookFaults();
        sentenceFaults();
        faultCalls();
        Kit.finish();
    }

    private static void newObject() {
        EarTown x = new EarTown();
        Kit.due("NONE", EarTown.NONE, -1);
        Kit.due("new count(0)", x.count(0), 0);
        Kit.due("new count(1)", x.count(1), 0);
        Kit.due("new count(2)", x.count(2), 0);
        Kit.due("new count(3)", x.count(3), 10);
        Kit.due("new count(4)", x.count(4), 0);
        Kit.due("new count(5)", x.count(5), -1);
        Kit.due("new count(-1)", x.count(-1), -1);
        Kit.due("new fault()", x.fault(), 0);
        Kit.due("new undo()", x.undo(), -1);
        Kit.due("new said(-1)", x.said(-1), -1);
        Kit.due("new struck()", x.struck(), -1);
        Kit.due("new restore(1)", x.restore(1), false);
        for (int what = 0; what < 8; what++) {
            Kit.due("new now", x.now(what), 0);
        }
    }

    private static void tape() {
        EarTown x = new EarTown();
        Kit.due("feed", x.feed(1, 2, 3, 4, 5), 20);
        Kit.due("end(21)", x.end(21), false);
        Kit.due("end(-1)", x.end(-1), false);
        Kit.due("bytes stay", x.count(4), 20);
        Kit.due("end(20)", x.end(20), true);
        Kit.due("end(3)", x.end(3), true);
        Kit.due("end(4)", x.end(4), false);
        Kit.due("feed behind 3", x.feed(1, 2, 3, 4, 5), 23);
        Kit.due("end(0)", x.end(0), true);
        for (int i = 1; i <= 47; i++) {
            Kit.due("feed " + i, x.feed(0, 0, 0, 0, 0), 20 * i);
        }
        Kit.due("feed beyond 940", x.feed(0, 0, 0, 0, 0), -1);
        Kit.due("none came", x.count(4), 940);
        x.end(921);
        Kit.due("feed beyond 940 by one", x.feed(0, 0, 0, 0, 0), -1);
        x.end(920);
        Kit.due("feed to 940", x.feed(0, 0, 0, 0, 0), 940);
        x.end(0);
        x.feed(0x67696674, 0x20373b72, 0x75696e20, 0x39393b20, 0x20202020);
        Kit.due("the highest byte first", x.town(), 2);
        Kit.due("gift", x.count(2), 7);
        Kit.due("ruin", x.count(3), 99);
        Kit.due("the tape is empty", x.count(4), 0);
    }

    private static void townIs(String text, int answer, int fault) {
        EarTown x = new EarTown();
        Kit.feed(x, "person kept 5 6 7;");
        x.town();
        x.days(3);
        Kit.feed(x, text);
        String shown = text.length() > 60 ? text.substring(0, 60) + ".." : text;
        Kit.due("town of " + shown, x.town(), answer);
        Kit.due("fault of " + shown, x.fault(), fault);
        Kit.due("the tape is empty", x.count(4), 0);
        if (answer < 0) {
            Kit.due("the TOWN stays", x.count(0), 1);
            Kit.due("the TOWN's NEED stays", x.person(0, 0), 26);
            Kit.due("acts stay", x.undo(), 0);
        } else {
            Kit.due("the DAY is 0", x.now(0), 0);
            Kit.due("nothing can be undone", x.undo(), -1);
        }
    }

    private static void tokens() {
        townIs("", 0, 0);
        townIs(" \n ", 0, 0);
        townIs("gift 1;\n ruin 5 ; ", 2, 0);
        townIs("gift 1;person a 1 2 3;", 2, 0);
        townIs("gift\n1;", 1, 0);
        townIs("gift 009;", 1, 0);
        townIs("gift 0009;", -6, 1);
        townIs("gift1;", -1, 1);
        townIs("gift 1a;", -6, 1);
        townIs("gift a;", -6, 1);
        townIs("gift ;", -6, 1);
        townIs("gift 1", -7, 1);
        townIs("gift 1 ", -8, 1);
        townIs("gift 1 1;", -8, 1);
        townIs("gift 1;;", -8, 1);
        townIs("gift\t1;", -5, 1);
        townIs("gift 1;\u00e4", -8, 1);
        townIs("gift 1;\u0000", -8, 1);
        townIs(";", -1, 1);
        townIs("  .", -3, 1);
        townIs("Gift 1;", -1, 1);
        townIs("gIft 1;", -1, 1);
        townIs("gift <;", -6, 1);
        townIs("gift gift;", -6, 1);
        townIs("strike;", -1, 1);
        townIs("hello;", -1, 1);
        townIs("person abcdefg 1 1 1;", 1, 0);
        townIs("person abcdefgh 1 1 1;", -8, 1);
        townIs("person a2 1 1 1;", -8, 1);
    }

    private static void townFaults() {
        townIs("person a 99 24 9;", 1, 0);
        townIs("person a 100 1 1;", -10, 2);
        townIs("person a 1 25 1;", -12, 2);
        townIs("person a 1 1 10;", -14, 2);
        townIs("person a 1 1;", -13, 1);
        townIs("person a b 1 1;", -10, 1);
        townIs("person 1 1 1 1;", -8, 1);
        townIs(PERSONS + "owes a b 99;", 3, 0);
        townIs(PERSONS + "owes a b 100;", -40, 2);
        townIs(PERSONS + "owes a b 0;", -40, 2);
        townIs(PERSONS + "owes a a 0;", -38, 3);
        townIs(PERSONS + "owes a c 1;", -38, 3);
        townIs(PERSONS + "owes c a 1;", -36, 3);
        townIs(PERSONS + "owes a free 1;", -38, 1);
        townIs(PERSONS + "owes a b 1;owes a b 1;", -49, 3);
        townIs(PERSONS + "owes a b 1;owes b a 1;", -49, 3);
        townIs(PERSONS + "owes c b 1;person c 1 1 1;", -36, 3);
        townIs(PERSONS + "story s a 99 9;", 3, 0);
        townIs(PERSONS + "story s a 100 9;", -41, 2);
        townIs(PERSONS + "story s a 1 10;", -43, 2);
        townIs(PERSONS + "story s s 1 1;", -39, 3);
        townIs(PERSONS + "story s a 1 1;story t s 1 1;", -53, 3);
        townIs(PERSONS + "story s a 1 1;free s;", -50, 3);
        townIs(PERSONS + "free a;free b;false a;false b;", 6, 0);
        townIs(PERSONS + "free a;free a;", -43, 3);
        townIs(PERSONS + "false a;free b;false a;", -52, 3);
        townIs(PERSONS + "free c;", -36, 3);
        townIs(PERSONS + "free 1;", -36, 1);
        townIs("gift 0;gift 10;", -8, 3);
        townIs("gift 9;", 1, 0);
        townIs("gift 10;", -6, 2);
        townIs("ruin 10;ruin 10;", -9, 3);
        townIs("ruin 1;", 1, 0);
        townIs("ruin 0;", -6, 2);
        townIs("ruin 100;", -6, 2);
    }

    private static void townNames() {
        String keys = "person owes story free false gift ruin hears tells day strike or and not ruined knows need ear debt credit place";
        for (String key : keys.split(" ")) {
            townIs("person " + key + " 1 1 1;", -8, 1);
            townIs("person a 1 1 1;story " + key + " a 1 1;", -22, 1);
            townIs("person a 1 1 1;false " + key + ";", -22, 1);
        }
        townIs("person persons 1 1 1;person perso 1 1 1;person nots 1 1 1;", 3, 0);
        townIs("person a 1 1 1;person a 1 1 1;", -23, 3);
        townIs("person a 1 1 1;story a a 1 1;", -22, 3);
        townIs("person a 1 1 1;story s a 1 1;story s a 1 1;", -36, 3);
        townIs("person a 1 1 1;story s a 1 1;person s 1 1 1;", -37, 3);
        StringBuilder eight = new StringBuilder();
        for (int i = 0; i < 8; i++) {
            eight.append("person p").append((char) ('a' + i)).append(" 1 1 1;");
        }
        townIs(eight.toString(), 8, 0);
        townIs(eight + "gift 1;person x 1 1 1;", -136, 4);
        townIs(eight + "person", -129, 4);
        townIs(eight + "person pa", -129, 4);
        for (int i = 0; i < 8; i++) {
            eight.append("story s").append((char) ('a' + i)).append(" pa 1 1;");
        }
        townIs(eight.toString(), 16, 0);
        townIs(eight + "ruin 4; story zz", -257 - 8, 4);
    }

    private static String blanks(int n) {
        return " ".repeat(n);
    }

    private static void townLimits() {
        townIs("gift 1;" + blanks(893), 1, 0);
        townIs("gift 1;" + blanks(894), -901, 1);
        townIs("gift 1;" + blanks(933), -901, 1);
        townIs("gift 1" + blanks(934), -901, 1);
        townIs(blanks(893) + "gift 1;", 1, 0);
        townIs(blanks(894) + "gift 1;", -901, 1);
        townIs(blanks(894) + "gift 1", -901, 1);
        townIs(blanks(894) + "gift 99", -900, 2);
        townIs(blanks(895) + "gift 99", -901, 1);
        townIs(blanks(898) + "gift 1;", -901, 1);
        townIs(blanks(898) + "gifts 1;", -899, 1);
        townIs(blanks(899) + "giftgift 1;", -900, 1);
        townIs("gift 1;" + blanks(892) + "gift 1;", -900, 3);
        townIs("gift 1;" + blanks(893) + "gift 1;", -901, 1);
        townIs("gift x" + blanks(934), -6, 1);
    }

    private static EarTown bookTown() {
        return Kit.of("person a 50 24 0;person b 50 24 0;story s a 5 1;");
    }

    private static void bookIs(String text, int answer, int fault) {
        for (int lives = 0; lives < 2; lives++) {
            EarTown x = bookTown();
            Kit.feed(x, text);
            String shown = text.length() > 60 ? text.substring(0, 60) + ".." : text;
            Kit.due("book of " + shown, x.book(lives), answer);
            Kit.due("fault of " + shown, x.fault(), fault);
            Kit.due("the tape is empty", x.count(4), 0);
            if (fault != 0) {
                Kit.due("nothing is lived", x.now(7) + x.now(0), 0);
                Kit.due("nothing is booked", x.booked(0), -1);
            }
        }
    }

    private static void bookFaults() {
        bookIs("", -1, 0);
        bookIs("a hears b 24;b tells a s;", 1, 0);
        bookIs("a hears b 1;a tells b s;day 30;strike;", -1, 0);
        bookIs("a hears b 0;", -12, 2);
        bookIs("a hears b 25;", -12, 2);
        bookIs("day 0;", -6, 2);
        bookIs("day 31;", -6, 2);
        bookIs("day;", -5, 1);
        bookIs("a hears b;", -11, 1);
        bookIs("a hears b 1", -13, 1);
        bookIs("a hears s 1;", -10, 3);
        bookIs("a hears z 1;", -10, 3);
        bookIs("z hears a 1;", -2, 3);
        bookIs("s hears a 1;", -2, 3);
        bookIs("gift 1;", -2, 1);
        bookIs("1 hears a 1;", -2, 1);
        bookIs("a b 1;", -4, 1);
        bookIs("a day 1;", -4, 1);
        bookIs("a tells b a;", -12, 3);
        bookIs("a tells b z;", -12, 3);
        bookIs("a tells b 1;", -12, 1);
        bookIs("a tells b knows;", -12, 1);
        bookIs("a hears a 1;", 0, 0);
        bookIs("a tells a s;", 0, 0);
        bookIs("day 1;a hears b 1;day 99;", -24, 2);
        String thirty = "strike;".repeat(30);
        bookIs(thirty, -1, 0);
        bookIs(thirty + "strike;", -212, 4);
        bookIs(thirty + " a", -213, 4);
        bookIs(thirty + "z", -212, 3);
        bookIs(thirty + "s", -212, 3);
        bookIs(thirty + "gift", -212, 1);
        bookIs(thirty + ";", -212, 1);
        bookIs("day 1;" + blanks(494), -1, 0);
        bookIs("day 1;" + blanks(495), -502, 1);
        bookIs(blanks(497) + "strikes;", -499, 3);
        bookIs(blanks(497) + "strikes1;", -499, 1);
        bookIs(blanks(498) + "strike;", -502, 1);
        bookIs(blanks(499) + "z", -501, 3);
    }

    private static void sentenceIs(String text, int answer, int fault) {
        EarTown x = bookTown();
        Kit.sentence(x, "place = 1");
        Kit.feed(x, text);
        String shown = text.length() > 60 ? text.substring(0, 60) + ".." : text;
        Kit.due("sentence of " + shown, x.sentence(), answer);
        Kit.due("fault of " + shown, x.fault(), fault);
        Kit.due("the tape is empty", x.count(4), 0);
        if (fault != 0) {
            Kit.due("the SENTENCE stays", x.said(0), 1);
        }
    }

    private static void sentenceFaults() {
        sentenceIs("", -1, 1);
        sentenceIs("  ", -3, 1);
        sentenceIs("free", 1, 0);
        sentenceIs("(free)", 2, 0);
        sentenceIs("not(free)", 3, 0);
        sentenceIs("need<999", 1, 0);
        sentenceIs("need < 1000", -8, 1);
        sentenceIs("need 1", -6, 1);
        sentenceIs("need ; 1", -6, 1);
        sentenceIs("need ( 1", -6, 1);
        sentenceIs("need < a", -8, 1);
        sentenceIs("need <", -7, 1);
        sentenceIs("free and", -9, 1);
        sentenceIs("free or", -8, 1);
        sentenceIs("free free", -6, 1);
        sentenceIs("free )", -6, 1);
        sentenceIs("( free", -7, 1);
        sentenceIs("( free ;", -8, 1);
        sentenceIs("( )", -3, 1);
        sentenceIs("or free", -1, 1);
        sentenceIs("free;", -5, 1);
        sentenceIs("knows s and owes a", 2, 0);
        sentenceIs("knows a", -7, 3);
        sentenceIs("knows z", -7, 3);
        sentenceIs("knows knows", -7, 1);
        sentenceIs("owes s", -6, 3);
        sentenceIs("owes z", -6, 3);
        sentenceIs("owes 1", -6, 1);
        sentenceIs("a", -1, 1);
        sentenceIs("free not free", -6, 1);
        sentenceIs("debt=0 or credit>1 and ear<5 or place=0", 4, 0);
        sentenceIs("free" + " and free".repeat(19), 20, 0);
        sentenceIs("free" + " or free".repeat(20), -1 - (4 + 19 * 8 + 4), 4);
        sentenceIs("free" + " or free".repeat(19) + " or (", -1 - (4 + 19 * 8 + 4), 4);
        sentenceIs("free" + " or free".repeat(19) + " or or", -1 - (4 + 19 * 8 + 4), 1);
        sentenceIs("free" + " or free".repeat(19) + " or knows z", -1 - (4 + 19 * 8 + 4), 4);
        sentenceIs("not ".repeat(7) + "free", 8, 0);
        sentenceIs("not ".repeat(8) + "free", -33, 4);
        sentenceIs("not ".repeat(8) + "and", -33, 1);
        sentenceIs("(".repeat(7) + "free and free" + ")".repeat(7), 9, 0);
        sentenceIs("(".repeat(8) + "free" + ")".repeat(8), -9, 4);
        sentenceIs("(".repeat(9), -9, 4);
        sentenceIs("not(not(not(not free)))and not(not(not(not ear = 1)))", 16, 0);
        sentenceIs("not(not(not(not free and not free)))", 10, 0);
        sentenceIs("not(not(not(not not free)))", -21, 4);
        sentenceIs("free" + blanks(196), 1, 0);
        sentenceIs("free" + blanks(197), -201, 1);
        sentenceIs(blanks(199) + "free", -201, 1);
        sentenceIs(blanks(199) + "frees", -200, 1);
    }

    private static void faultCalls() {
        EarTown x = bookTown();
        Kit.town(x, "gift 10;");
        Kit.due("fault of town", x.fault(), 2);
        Kit.feed(x, "dd");
        Kit.due("talked", x.talked(), 1);
        Kit.due("talked leaves fault", x.fault(), 2);
        Kit.feed(x, "free");
        Kit.due("book(2)", x.book(2), -1000);
        Kit.due("book(-1)", x.book(-1), -1000);
        Kit.due("the tape stays", x.count(4), 4);
        Kit.due("book(2) leaves fault", x.fault(), 2);
        Kit.due("sentence", x.sentence(), 1);
        Kit.due("no fault now", x.fault(), 0);
        Kit.due("book with a fault", Kit.book(x, "z hears a 1;", 0), -2);
        Kit.due("its fault", x.fault(), 3);
        Kit.due("book without", Kit.book(x, "", 0), -1);
        Kit.due("no fault again", x.fault(), 0);
        Kit.due("fault 4", Kit.sentence(x, "not ".repeat(9)), -33);
        Kit.due("its kind", x.fault(), 4);
        x.image(0);
        x.restore(0);
        Kit.due("restore leaves fault", x.fault(), 4);
    }
}
