/** Edges of the tape, of TOKENS, and of what a TOWN, a BOOK and a SENTENCE may be; each FAULT at its place. */
final class EdgesOfTexts {
    private static final String TWO = "person a 50 24 0;person b 50 24 0;";
    private static final String READ = TWO + "story s a 5 1;";
    private static final String KEYS = "person owes story free false gift ruin hears tells day strike or and not ruined knows need ear debt credit place";

    private EdgesOfTexts() {
    }

    static void all() {
        newObject();
        feed();
        end();
        blanks();
        words();
        numbers();
        signs();
        townLength();
        townLines();
        personLines();
        owesLines();
        storyLines();
        onceLines();
        names();
        eightAtMost();
        fullTown();
        town();
        bookLines();
        sentenceLines();
        sentenceNests();
        faultOrder();
        faultEnds();
        faultNames();
        faultCounts();
        fault();
        count();
        calls();
    }

    /** The place of a FAULT is where the sign ^ stands; it is no part of the text. */
    private static String bare(String marked) {
        return marked.replace("^", "");
    }

    private static String brief(String text) {
        String plain = text.replace("\n", "\\n");
        return plain.length() < 90 ? plain : plain.substring(0, 40) + " .. " + plain.substring(plain.length() - 40);
    }

    static void goodTown(int lines, String text) {
        EarTown x = new EarTown();
        Kit.due("town of " + brief(text), Kit.town(x, text), lines);
        Kit.due("fault of " + brief(text), x.fault(), 0);
        Kit.due("tape behind " + brief(text), x.count(4), 0);
    }

    static void wrongTown(int fault, String marked) {
        EarTown x = Kit.of("person kept 5 6 7;");
        Kit.due("town of " + brief(marked), Kit.town(x, bare(marked)), -1 - marked.indexOf('^'));
        Kit.due("fault of " + brief(marked), x.fault(), fault);
        Kit.due("tape behind " + brief(marked), x.count(4), 0);
        Kit.due("the TOWN that stays behind " + brief(marked), x.count(0) * 100 + x.person(0, 2), 106);
    }

    static void goodBook(String text, int wrong) {
        EarTown x = Kit.of(READ);
        Kit.due("book of " + brief(text), Kit.book(x, text, 0), wrong);
        Kit.due("fault of " + brief(text), x.fault(), 0);
        Kit.due("tape behind " + brief(text), x.count(4), 0);
    }

    static void wrongBook(int fault, String marked) {
        for (int lives = 0; lives < 2; lives++) {
            EarTown x = Kit.of(READ);
            Kit.due("book of " + brief(marked), Kit.book(x, bare(marked), lives), -2 - marked.indexOf('^'));
            Kit.due("fault of " + brief(marked), x.fault(), fault);
            Kit.due("tape behind " + brief(marked), x.count(4), 0);
            Kit.due("lived of " + brief(marked), x.now(0) + x.now(7), 0);
        }
    }

    static void goodSentence(int ones, String text) {
        EarTown x = Kit.of(READ);
        Kit.due("sentence of " + brief(text), Kit.sentence(x, text), ones);
        Kit.due("fault of " + brief(text), x.fault(), 0);
        Kit.due("tape behind " + brief(text), x.count(4), 0);
    }

    static void wrongSentence(int fault, String marked) {
        EarTown x = Kit.of(READ);
        Kit.sentence(x, "place = 1");
        Kit.due("sentence of " + brief(marked), Kit.sentence(x, bare(marked)), -1 - marked.indexOf('^'));
        Kit.due("fault of " + brief(marked), x.fault(), fault);
        Kit.due("tape behind " + brief(marked), x.count(4), 0);
        Kit.due("the SENTENCE that stays behind " + brief(marked), x.said(-1) * 10 + x.said(0), 11);
    }

    static String spaces(int n) {
        return " ".repeat(n);
    }

    private static void newObject() {
        Doc.holds(1, "An empty TOWN; an empty tape.");
        EarTown x = new EarTown();
        int[] counts = {0, 0, 0, 10, 0};
        for (int what = 0; what < 5; what++) {
            Kit.due("count(" + what + ")", x.count(what), counts[what]);
        }
        for (int what = 0; what < 8; what++) {
            Kit.due("now(" + what + ")", x.now(what), 0);
        }
        Kit.dueThrow("person(0, 0)", () -> x.person(0, 0));
        Kit.dueThrow("story(0, 0)", () -> x.story(0, 0));
        Kit.due("end(0)", x.end(0), true);
        Kit.due("end(1)", x.end(1), false);
        Kit.due("fault()", x.fault(), 0);
        Kit.due("owes(0, 0)", x.owes(0, 0), -1);
        Kit.due("why(0, 0, 1)", x.why(0, 0, 1), -1);
        Kit.due("hear(0, 0, 1)", x.hear(0, 0, 1), -1);
        Kit.due("tell(0, 0, 0)", x.tell(0, 0, 0), -1);
        Kit.due("next()", x.next(), -1);
        Kit.due("sermon(0, 1, 1)", x.sermon(0, 1, 1), -1001);
        Kit.due("crowd(0, 1)", x.crowd(0, 1), -1);
        Kit.due("sold(0, 0)", x.sold(0, 0), -1);
        Kit.due("best(0)", x.best(0), -1);
        Kit.due("odds(0, 1, 1)", x.odds(0, 1, 1), -1);
        Kit.due("said(-1)", x.said(-1), -1);
        Kit.due("strike()", x.strike(), 0);
        Kit.due("hour()", x.hour(), 0);
        Kit.due("ring()", x.ring(), 0);
        Kit.due("days(1)", x.days(1), 1);
        Kit.due("NONE", EarTown.NONE, -1);
        EarTown y = Kit.of("person a 1 1 1;");
        Kit.due("another object's TOWN", new EarTown().count(0), 0);
        Kit.due("its own", y.count(0), 1);
    }

    private static void feed() {
        Doc.holds(2, "Twenty bytes come behind the tape, of each number the highest first: how many it has;");
        EarTown x = new EarTown();
        x.feed(0x67696674, 0x20373b72, 0x75696e20, 0x39393b66, 0x72656520);
        x.end(15);
        Kit.due("feed behind 15", x.feed(0x70657273, 0x6f6e2061, 0x20312031, 0x20313b66, 0x72656520), 35);
        Kit.due("feed behind 35", x.feed(0x613b2020, 0x20202020, 0x20202020, 0x20202020, 0x2020200a), 55);
        Kit.due("the text that came", x.town(), 4);
        Kit.due("its gift", x.count(2), 7);
        Kit.due("its ruin", x.count(3), 99);
        Kit.due("feed behind a text that was read", x.feed(0, 0, 0, 0, 0), 20);
        EarTown y = new EarTown();
        y.feed(-1, 0, 0, 0, 0);
        Kit.due("bytes above 127", y.town(), -1);
        y.feed(0x0affff20, 0, 0, 0, 0);
        Kit.due("behind a blank", y.town(), -2);
        EarTown z = Kit.of(TWO + "person c 0 0 0;person d 0 0 0;person e 0 0 0;person f 0 0 0;");
        z.feed(0x65646462, 0x65640000, 0, 0, 0);
        z.end(6);
        Kit.due("balances 1 0 0 -2 1 0", z.talked() > 0, true);
        Kit.due("who HEARS first", z.talk(0, 0) * 10 + z.talk(0, 1), 3);
        Kit.due("who HEARS then", z.talk(1, 0) * 10 + z.talk(1, 1), 43);

        Doc.holds(2, "NONE, and none come, if it would have more than 940.");
        EarTown w = new EarTown();
        for (int i = 1; i <= 47; i++) {
            Kit.due("feed " + i, w.feed(0x20202020, 0x20202020, 0x20202020, 0x20202020, 0x20202020), 20 * i);
        }
        Kit.due("feed to 960", w.feed(0, 0, 0, 0, 0), -1);
        Kit.due("the tape behind it", w.count(4), 940);
        w.end(921);
        Kit.due("feed to 941", w.feed(0, 0, 0, 0, 0), -1);
        Kit.due("the tape behind it", w.count(4), 921);
        w.end(920);
        Kit.due("feed to 940", w.feed(0x20202020, 0x20202020, 0x20202020, 0x20202020, 0x20202020), 940);
        w.end(900);
        Kit.due("none of the bytes came", w.town(), 0);
    }

    private static void end() {
        Doc.holds(3, "The tape has its first n bytes alone: true;");
        EarTown x = new EarTown();
        Kit.feed(x, "gift 3;ruin 4;");
        Kit.due("end(14) of 14", x.end(14), true);
        Kit.due("bytes", x.count(4), 14);
        Kit.due("end(7)", x.end(7), true);
        Kit.due("bytes", x.count(4), 7);
        Kit.feed(x, "\n");
        Kit.due("the first 7 and one more", x.town(), 1);
        Kit.due("gift", x.count(2), 3);
        Kit.due("ruin", x.count(3), 10);
        Kit.feed(x, "x");
        Kit.due("end(0)", x.end(0), true);
        Kit.due("bytes", x.count(4), 0);
        Kit.due("end(0) of none", x.end(0), true);

        Doc.holds(3, "false, if it has not so many, or n is below 0.");
        EarTown y = new EarTown();
        Kit.due("end(1) of none", y.end(1), false);
        Kit.due("end(-1) of none", y.end(-1), false);
        Kit.feed(y, "gift 3;");
        for (int n : new int[] {-1, -7, Integer.MIN_VALUE, 8, 20, 940, Integer.MAX_VALUE}) {
            Kit.due("end(" + n + ")", y.end(n), false);
            Kit.due("bytes stay", y.count(4), 7);
        }
        Kit.due("the text stays", y.town(), 1);
        Kit.due("bytes that were cut off are not there", y.end(1), false);
    }

    private static void blanks() {
        Doc.holds(4, "TOKENS of all texts, with blanks (32, 10) between them or not:");
        goodTown(2, " \n gift \n\n 1 ;\n ruin\n5; \n");
        goodTown(2, "gift 1;ruin 5;");
        goodTown(2, "\n\ngift\n1\n;\nruin\n5\n;\n\n");
        goodBook("a hears b 1;b hears a 1;day 1;", -1);
        goodBook(" \n a\nhears\nb\n1\n;\nb hears a 1 ; day 1 ;\n", -1);
        goodSentence(5, "(free)and(false)or need<3");
        goodSentence(5, "\n( free )\nand ( false ) or\nneed\n<\n3\n");
        for (int b = 0; b < 256; b++) {
            if ((b < 32 && b != 10) || b > 126) {
                wrongTown(1, "gift ^" + (char) b + "1;");
                wrongBook(1, "strike^" + (char) b + ";");
                wrongSentence(1, "free^" + (char) b);
            }
        }
    }

    private static void words() {
        Doc.holds(4, "WORDS: small letters, 1 to 7;");
        goodTown(3, "person a 1 1 1;person z 1 1 1;person azazazz 1 1 1;");
        goodTown(4, "person aaaaaaa 1 1 1;person aaaaaab 1 1 1;person baaaaaa 1 1 1;person aa 1 1 1;");
        goodTown(1, "person zzzzzzz 1 1 1;");
        for (char c = 'a'; c <= 'z'; c++) {
            for (char d = 'a'; d <= 'z'; d++) {
                String other = c == d ? "" : "person " + d + " 1 1 1;story b" + d + c + " a" + d + " 1 1;";
                goodTown(c == d ? 3 : 5, "person " + c + " 1 1 1;person a" + d + " 1 1 1;person aa" + c + d + " 1 1 1;" + other);
            }
        }
        wrongTown(1, "person ^aaaaaaaa 1 1 1;");
        wrongTown(1, "person ^" + "a".repeat(71) + " 1 1 1;");
        wrongTown(1, "person ^A 1 1 1;");
        wrongTown(1, "person ^Z 1 1 1;");
        wrongTown(1, "person a^A 1 1 1;");
        wrongTown(1, "person ^@ 1 1 1;");
        wrongTown(1, "person ^[ 1 1 1;");
        wrongTown(1, "person ^` 1 1 1;");
        wrongTown(1, "person ^{ 1 1 1;");
        wrongTown(1, "person a^{ 1 1 1;");
        wrongTown(1, "person a^` 1 1 1;");
        wrongTown(1, "person ^; 1 1 1;");

        Doc.holds(4, "(A WORD, NUMBER goes on as long as small letters and digits do; what is not as told is no TOKEN.)");
        goodTown(1, "person abcdefg 1 1 1;");
        wrongTown(1, "person ^abcdefgh 1 1 1;");
        wrongTown(1, "^personp 1 1 1;");
        wrongTown(1, "person ^a1 1 1 1;");
        wrongTown(1, "person ^1a 1 1 1;");
        wrongTown(1, "^gift1;");
        wrongTown(1, "gift ^1a;");
        wrongTown(1, "gift 1;^1gift 1;");
        wrongTown(1, "gift ^1ruin 5;");
        wrongTown(1, "gift ^0z;");
        wrongTown(1, "gift ^9a;");
        wrongTown(1, "gift ^a9;");
        wrongBook(1, "^a1 hears b 1;");
        wrongBook(1, "day ^1strike;");
        wrongSentence(1, "need < ^3or free");
        wrongSentence(1, "^need3");
        wrongSentence(1, "knows ^s1");
    }

    private static void numbers() {
        Doc.holds(4, "NUMBERS: 1 to 3 digits;");
        goodTown(1, "gift 7;");
        goodTown(1, "gift 07;");
        goodTown(1, "gift 007;");
        goodTown(1, "gift 000;");
        wrongTown(1, "gift ^0007;");
        wrongTown(1, "gift ^0000;");
        wrongTown(1, "gift ^1000;");
        wrongTown(1, "gift ^4294967297;");
        wrongTown(1, "gift ^" + "0".repeat(70) + "1;");
        wrongTown(1, "gift ^/;");
        wrongTown(1, "gift ^:;");
        wrongTown(1, "gift 1^/;");
        wrongTown(1, "gift 1^:;");
        wrongTown(1, "gift ^-1;");
        wrongTown(1, "gift ^+1;");
        wrongTown(1, "gift 1^.0;");
        wrongBook(1, "day ^0001;");
        goodBook("day 001;", -1);
        goodSentence(1, "need < 999");
        goodSentence(1, "need < 000");
        wrongSentence(1, "need < ^1000");
        wrongSentence(1, "need < ^0000");
        EarTown x = Kit.of("person a 99 09 9;ruin 019;");
        Kit.due("NEED 99", x.person(0, 0), 99);
        Kit.due("EAR 09", x.person(0, 1), 9);
        Kit.due("ruin 019", x.count(3), 19);
    }

    private static void signs() {
        Doc.holds(38, "; < = > ( ) .");
        goodTown(1, "gift 1;");
        goodSentence(1, "need<3");
        goodSentence(1, "need=3");
        goodSentence(1, "need>3");
        goodSentence(2, "(free)");
        wrongSentence(1, "need<^=3");
        wrongSentence(1, "need=^=3");
        wrongSentence(1, "(^)");
        wrongTown(1, "gift ^.;");
        wrongTown(1, "gift 1^.");
        wrongSentence(1, "free^.");
        for (String sign : "< = > ( )".split(" ")) {
            wrongTown(1, "^" + sign);
            wrongTown(1, "gift 1^" + sign + ";");
            wrongBook(1, "^" + sign);
            wrongBook(1, "day 1^" + sign + ";");
        }
        for (String sign : "; < = >".split(" ")) {
            wrongSentence(1, "^" + sign);
            wrongSentence(1, "free ^" + sign);
        }
        for (int b = 33; b < 127; b++) {
            if (!Character.isLetterOrDigit(b) && b != '^' && b != ';') {
                wrongTown(1, "gift 1^" + (char) b + ";");
            }
        }
    }

    private static void townLength() {
        Doc.holds(4, "A TOWN is a text of at most 900 bytes:");
        goodTown(1, "gift 1;" + spaces(893));
        goodTown(1, spaces(893) + "gift 1;");
        wrongTown(1, "gift 1;" + spaces(893) + "^ ");
        wrongTown(1, "gift 1;" + spaces(893) + "^\n");
        wrongTown(1, "gift 1;" + spaces(893) + "^" + spaces(40));
        wrongTown(1, spaces(894) + "gift 1^;");
        wrongTown(1, spaces(893) + "gift 1;^ruin 1;");
        goodTown(0, spaces(900));
        wrongTown(1, spaces(900) + "^ ");

        Doc.holds(36, "A BOOK is a text of at most 500 bytes:");
        goodBook("day 1;" + spaces(494), -1);
        goodBook(spaces(494) + "day 1;", -1);
        wrongBook(1, "day 1;" + spaces(494) + "^ ");
        wrongBook(1, spaces(495) + "day 1^;");
        wrongBook(1, spaces(494) + "day 1;^strike;");
        wrongBook(1, "day 1;" + spaces(494) + "^" + spaces(440));

        Doc.holds(38, "A SENTENCE is a text of at most 200 bytes:");
        goodSentence(1, "free" + spaces(196));
        goodSentence(1, spaces(196) + "free");
        goodSentence(1, spaces(194) + "need<9");
        wrongSentence(1, "free" + spaces(196) + "^ ");
        wrongSentence(1, "free" + spaces(196) + "^" + spaces(740));
        wrongSentence(1, spaces(196) + "free^ and free");
        wrongSentence(1, spaces(200) + "^ ");
    }

    private static void townLines() {
        Doc.holds(4, "{ LINE ; }. LINE:");
        goodTown(0, "");
        goodTown(0, "\n ");
        goodTown(1, "gift 1;");
        goodTown(3, "gift 1;ruin 1;person a 1 1 1;");
        wrongTown(1, "gift 1^");
        wrongTown(1, "gift 1;ruin 1^");
        wrongTown(1, "gift 1 ^ruin 1;");
        wrongTown(1, "gift 1;^;");
        wrongTown(1, "^;gift 1;");
        wrongTown(1, "^hello;");
        wrongTown(1, "^1;");
        for (String key : "hears tells day strike or and not ruined knows need ear debt credit place".split(" ")) {
            wrongTown(1, "^" + key + " 1;");
        }
    }

    private static void personLines() {
        Doc.holds(4, "'person' NAME NEED EAR GROWS (0 to 99; 0 to 24; 0 to 9)");
        EarTown x = Kit.of("person a 0 0 0;person b 99 24 9;person c 98 23 8;");
        int[][] due = {{0, 0, 0, 0}, {99, 24, 24, 9}, {98, 23, 23, 8}};
        for (int p = 0; p < 3; p++) {
            for (int what = 0; what < 4; what++) {
                Kit.due("person(" + p + ", " + what + ")", x.person(p, what), due[p][what]);
            }
        }
        wrongTown(2, "person a ^100 1 1;");
        wrongTown(2, "person a ^999 1 1;");
        wrongTown(2, "person a 1 ^25 1;");
        wrongTown(2, "person a 1 1 ^10;");
        wrongTown(1, "person ^");
        wrongTown(1, "person ^;");
        wrongTown(1, "person a^;");
        wrongTown(1, "person a 1^;");
        wrongTown(1, "person a 1 1^;");
        wrongTown(1, "person a 1 1 1 ^1;");
        wrongTown(1, "person a ^b 1 1;");
        wrongTown(1, "person a 1 ^b 1;");
        wrongTown(1, "person a 1 1 ^b;");
        wrongTown(1, "person ^1 1 1;");
    }

    private static void owesLines() {
        Doc.holds(4, "'owes' PERSON PERSON N (unlike; 1 to 99; each two once, in whatever order)");
        EarTown x = Kit.of(TWO + "person c 1 1 1;owes a b 1;owes c b 99;owes c a 50;");
        Kit.due("owes(0, 1)", x.owes(0, 1), 1);
        Kit.due("owes(2, 1)", x.owes(2, 1), 99);
        Kit.due("owes(2, 0)", x.owes(2, 0), 50);
        Kit.due("owes(1, 2)", x.owes(1, 2), 0);
        wrongTown(2, TWO + "owes a b ^0;");
        wrongTown(2, TWO + "owes a b ^100;");
        wrongTown(3, TWO + "owes a ^a 1;");
        wrongTown(3, TWO + "owes b ^b 0;");
        wrongTown(3, TWO + "owes a b 1;owes a ^b 1;");
        wrongTown(3, TWO + "owes a b 1;owes b ^a 1;");
        wrongTown(3, TWO + "owes a b 1;owes b ^a 0;");
        wrongTown(1, TWO + "owes ^;");
        wrongTown(1, TWO + "owes a ^1;");
        wrongTown(1, TWO + "owes a b^;");
        wrongTown(1, TWO + "owes a b ^a;");
        wrongTown(1, TWO + "owes a b 1 ^1;");
    }

    private static void storyLines() {
        Doc.holds(4, "'story' NAME PERSON WORTH FALLS (0 to 99; 0 to 9)");
        EarTown x = Kit.of(TWO + "story s b 0 0;story t a 99 9;");
        Kit.due("whose the first is", x.story(0, 0), 1);
        Kit.due("its worth", x.story(0, 1), 0);
        Kit.due("whose the second is", x.story(1, 0), 0);
        Kit.due("its worth", x.story(1, 1), 99);
        x.tell(0, 1, 1);
        Kit.due("its worth told once", x.story(1, 1), 90);
        wrongTown(2, TWO + "story s a ^100 1;");
        wrongTown(2, TWO + "story s a 1 ^10;");
        wrongTown(1, TWO + "story ^;");
        wrongTown(1, TWO + "story ^1 a 1 1;");
        wrongTown(1, TWO + "story s ^1 1;");
        wrongTown(1, TWO + "story s a^;");
        wrongTown(1, TWO + "story s a 1^;");
        wrongTown(1, TWO + "story s a ^b 1;");
        wrongTown(1, TWO + "story s a 1 1 ^1;");
    }

    private static void onceLines() {
        Doc.holds(4, "'free' PERSON | 'false' PERSON (each PERSON once each)");
        goodTown(6, TWO + "free a;free b;false a;false b;");
        goodTown(4, TWO + "false b;free b;");
        EarTown x = Kit.of(TWO + "free b;false a;");
        Kit.due("who is free", x.person(0, 4) * 10 + x.person(1, 4), 1);
        Kit.due("who is false", x.person(0, 5) * 10 + x.person(1, 5), 10);
        wrongTown(3, TWO + "free a;free ^a;");
        wrongTown(3, TWO + "false b;free b;false a;false ^b;");
        wrongTown(1, TWO + "free^;");
        wrongTown(1, TWO + "false^;");
        wrongTown(1, TWO + "free a ^b;");

        Doc.holds(4, "'gift' N (0 to 9; once; 0 without)");
        Kit.due("gift 0", Kit.of("gift 0;").count(2), 0);
        Kit.due("gift 9", Kit.of("gift 9;").count(2), 9);
        Kit.due("without", Kit.of("ruin 3;").count(2), 0);
        wrongTown(2, "gift ^10;");
        wrongTown(3, "gift 1;^gift 1;");
        wrongTown(3, "gift 0;^gift 0;");
        wrongTown(3, "gift 0;ruin 1;^gift");
        wrongTown(1, "gift^;");
        EarTown y = Kit.of("gift 4;");
        Kit.due("once in each text", Kit.town(y, "gift 5;"), 1);
        Kit.town(y, "gift 6;gift");
        Kit.due("once in a text behind one with a FAULT", Kit.town(y, "gift 7;"), 1);
        Kit.due("the latest", y.count(2), 7);
        Kit.town(y, "");
        Kit.due("without, behind another", y.count(2), 0);

        Doc.holds(4, "'ruin' N (1 to 99; once; 10 without).");
        Kit.due("ruin 1", Kit.of("ruin 1;").count(3), 1);
        Kit.due("ruin 99", Kit.of("ruin 99;").count(3), 99);
        Kit.due("without", Kit.of("gift 3;").count(3), 10);
        wrongTown(2, "ruin ^0;");
        wrongTown(2, "ruin ^100;");
        wrongTown(3, "ruin 10;^ruin 10;");
        wrongTown(3, "ruin 9;gift 1;^ruin");
        wrongTown(1, "ruin^;");
        EarTown z = Kit.of("ruin 4;");
        Kit.due("once in each text", Kit.town(z, "ruin 5;"), 1);
        Kit.town(z, "ruin 6;ruin");
        Kit.due("once in a text behind one with a FAULT", Kit.town(z, "ruin 7;"), 1);
        Kit.town(z, "");
        Kit.due("without, behind another", z.count(3), 10);
    }

    private static void names() {
        Doc.holds(4, "NAME: a WORD, none of those told here, in a BOOK or in a SENTENCE;");
        for (String key : KEYS.split(" ")) {
            wrongTown(1, "person ^" + key + " 1 1 1;");
            wrongTown(1, TWO + "story ^" + key + " a 1 1;");
            wrongTown(1, TWO + "story t ^" + key + " 1 1;");
            wrongTown(1, TWO + "free ^" + key + ";");
            wrongTown(1, TWO + "owes a ^" + key + " 1;");
            wrongBook(1, "a hears ^" + key + " 1;");
            wrongBook(1, "a tells b ^" + key + ";");
            wrongSentence(1, "owes ^" + key);
            wrongSentence(1, "knows ^" + key);
            String near = key.length() < 7 ? key + "s" : key.substring(1);
            goodTown(1, "person " + near + " 1 1 1;");
            goodTown(1, "person " + key.substring(0, key.length() - 1) + " 1 1 1;");
        }

        Doc.holds(4, "told once (PERSONS, STORIES).");
        goodTown(4, TWO + "story c a 1 1;story d a 1 1;");
        wrongTown(3, TWO + "person ^a 1 1 1;");
        wrongTown(3, TWO + "person ^b 1 1 1;");
        wrongTown(3, TWO + "story ^a a 1 1;");
        wrongTown(3, TWO + "story s a 1 1;story ^s a 1 1;");
        wrongTown(3, TWO + "story s a 1 1;person ^s 1 1 1;");
    }

    private static String eight(String before, String after) {
        StringBuilder text = new StringBuilder();
        for (int i = 0; i < 8; i++) {
            text.append(before).append((char) ('a' + i)).append(after);
        }
        return text.toString();
    }

    private static void eightAtMost() {
        Doc.holds(4, "8 PERSONS, 8 STORIES at most, numbered from 0 each.");
        String persons = eight("person p", " 1 1 1;");
        String stories = eight("story s", " pc 7 1;");
        goodTown(16, persons + stories);
        wrongTown(4, persons + "^person x 1 1 1;");
        wrongTown(4, persons + stories + "^story x pa 1 1;");
        EarTown x = Kit.of("person pz 3 1 1;story sz pz 5 1;person py 4 1 1;story sy py 6 1;");
        Kit.due("PERSON 0", x.person(0, 0), 3);
        Kit.due("PERSON 1", x.person(1, 0), 4);
        Kit.due("STORY 0", x.story(0, 1), 5);
        Kit.due("STORY 1", x.story(1, 1), 6);
        EarTown y = Kit.of(persons + stories);
        Kit.due("PERSON 7", y.person(7, 0), 1);
        Kit.due("STORY 7", y.story(7, 1), 7);
        Kit.dueThrow("PERSON 8", () -> y.person(8, 0));
        Kit.dueThrow("STORY 8", () -> y.story(8, 0));
    }

    /** All that a TOWN can tell, told at once. */
    private static void fullTown() {
        Doc.holds(4, "how many LINES;");
        StringBuilder text = new StringBuilder(eight("person ", " 9 9 9;") + eight("story s", " h 9 9;")
                + eight("free ", ";") + eight("false ", ";") + "gift 9;ruin 9;");
        for (char a = 'a'; a <= 'h'; a++) {
            for (char b = 'a'; b < a; b++) {
                text.append("owes ").append(a).append(' ').append(b).append(' ').append(a - b).append(';');
            }
        }
        goodTown(62, text.toString());
        EarTown x = Kit.of(text.toString());
        Kit.due("all that the last one owes", x.person(7, 9), 28);
        Kit.due("all that is owed to the first one", x.person(0, 10), 28);
        Kit.due("all hours owed", x.now(2), 28 + 21 + 15 + 10 + 6 + 3 + 1);
        goodTown(0, "");
        goodTown(1, "ruin 9;");
        goodTown(2, "ruin 9;gift 9;");
    }

    private static void town() {
        Doc.holds(4, "The tape (empty then, with a FAULT, too, here and below) is the TOWN now:");
        EarTown x = Kit.of("person a 1 1 1;");
        Kit.due("the tape behind a TOWN", x.count(4), 0);
        Kit.due("the TOWN", x.count(0), 1);
        Kit.town(x, "person");
        Kit.due("behind a TOWN with a FAULT", x.count(4), 0);
        Kit.book(x, "day 1;", 1);
        Kit.due("behind a BOOK", x.count(4), 0);
        Kit.book(x, "day", 1);
        Kit.due("behind a BOOK with a FAULT", x.count(4), 0);
        Kit.sentence(x, "free");
        Kit.due("behind a SENTENCE", x.count(4), 0);
        Kit.sentence(x, "free free");
        Kit.due("behind a SENTENCE with a FAULT", x.count(4), 0);
        Kit.feed(x, "d");
        x.talked();
        Kit.due("behind balances", x.count(4), 0);
        Kit.feed(x, "dd");
        x.talked();
        Kit.due("behind balances that are not as told", x.count(4), 0);
        Kit.due("a TOWN of the tape that is empty then", x.town(), 0);
        Kit.due("no PERSONS", x.count(0), 0);

        Doc.holds(4, "-1 less the place of a FAULT: it stays.");
        EarTown y = Kit.of("person a 5 6 7;story s a 8 9;gift 2;ruin 3;");
        Kit.sentence(y, "free");
        y.days(2);
        Kit.due("a FAULT at 0", Kit.town(y, "x"), -1);
        Kit.due("a FAULT behind all else", Kit.town(y, "person b 1 1 1;story t b 1 1;free b;false b;gift 9;ruin 9"), -1 - 57);
        Kit.due("its PERSONS", y.count(0), 1);
        Kit.due("its STORIES", y.count(1), 1);
        Kit.due("its gift", y.count(2), 2);
        Kit.due("its ruin", y.count(3), 3);
        Kit.due("its DAY", y.now(0), 2);
        Kit.due("its NEED", y.person(0, 0), 19);
        Kit.due("its EAR", y.person(0, 1), 6);
        Kit.due("nobody is free", y.person(0, 4), 0);
        Kit.due("its SENTENCE", y.said(-1), 0);
        Kit.due("its STORY", y.story(0, 1), 8);
        Kit.due("its names", Kit.book(y, "a tells a s;", 0), 0);
        Kit.due("no others", Kit.book(y, "b tells b t;", 0), -2);
        Kit.due("its acts", y.undo(), 0);
        Kit.due("undone", y.person(0, 0), 5);
    }

    private static void bookLines() {
        Doc.holds(36, "{ LINE ; }, 30 at most:");
        goodBook("", -1);
        goodBook("strike;", -1);
        wrongBook(1, "strike^");
        wrongBook(1, "strike;^;");
        wrongBook(1, "strike ^strike;");
        goodBook("strike;".repeat(29), -1);
        goodBook("strike;".repeat(30), -1);
        wrongBook(4, "strike;".repeat(30) + "^strike;");
        wrongBook(4, "strike;".repeat(30) + " ^day 1;");
        wrongBook(4, "strike;".repeat(30) + "^a");

        Doc.holds(36, "PERSON 'hears' PERSON N (1 to 24)");
        goodBook("a hears b 1;", -1);
        goodBook("a hears b 24;", -1);
        wrongBook(2, "a hears b ^0;");
        wrongBook(2, "a hears b ^25;");
        wrongBook(1, "a hears b^;");
        wrongBook(1, "a hears ^1;");
        wrongBook(1, "a hears b ^b;");
        wrongBook(1, "a ^b 1;");
        wrongBook(1, "a ^day 1;");
        wrongBook(1, "a^;");

        Doc.holds(36, "PERSON 'tells' PERSON STORY");
        goodBook("a tells b s;", -1);
        wrongBook(1, "a tells b^;");
        wrongBook(1, "a tells b ^1;");
        wrongBook(1, "a tells b s ^1;");
        wrongBook(3, "a tells ^s b;");

        Doc.holds(36, "'day' N (1 to 30)");
        goodBook("day 1;", -1);
        goodBook("day 30;", -1);
        wrongBook(2, "day ^0;");
        wrongBook(2, "day ^31;");
        wrongBook(1, "day^;");
        wrongBook(1, "day ^a;");

        Doc.holds(36, "'strike'.");
        goodBook("strike;", -1);
        wrongBook(1, "strike ^1;");
        for (String key : "person owes story free false gift ruin hears tells or and not ruined knows need ear debt credit place".split(" ")) {
            wrongBook(1, "^" + key + ";");
        }
        wrongBook(1, "^1;");
    }

    private static void sentenceLines() {
        Doc.holds(38, "COND: ALL { 'or' ALL }. ALL: ONE { 'and' ONE }.");
        goodSentence(1, "free");
        goodSentence(3, "free or false or free");
        goodSentence(3, "free and false and free");
        goodSentence(4, "free and false or free and false");
        wrongSentence(1, "^");
        wrongSentence(1, "^or free");
        wrongSentence(1, "^and free");
        wrongSentence(1, "free or^");
        wrongSentence(1, "free and^");
        wrongSentence(1, "free or ^and free");
        wrongSentence(1, "free and ^or free");
        wrongSentence(1, "free ^free");
        wrongSentence(1, "free ^not free");

        Doc.holds(38, "ONE: 'not' ONE | ( COND ) | 'ruined' | 'free' | 'false' | 'knows' STORY | 'owes' PERSON (some hours)");
        goodSentence(2, "not free");
        goodSentence(3, "not not free");
        goodSentence(2, "(free)");
        goodSentence(3, "(free or false)");
        goodSentence(3, "ruined and free and false");
        goodSentence(2, "knows s or owes b");
        wrongSentence(1, "not^");
        wrongSentence(1, "not ^or free");
        wrongSentence(1, "(^");
        wrongSentence(1, "(free^");
        wrongSentence(1, "(free ^;");
        wrongSentence(1, "free^)");
        wrongSentence(1, "((free)^");
        wrongSentence(1, "knows^");
        wrongSentence(1, "owes^");
        wrongSentence(1, "knows ^1");
        wrongSentence(1, "ruined ^s");
        wrongSentence(1, "^a");
        wrongSentence(1, "^3");
        for (String key : "person story gift ruin hears tells day strike or and".split(" ")) {
            wrongSentence(1, "^" + key);
        }

        Doc.holds(38, "( 'need' | 'ear' | 'debt' | 'credit' | 'place' ) SIGN NUMBER", "SIGN: < = >.");
        for (String key : "need ear debt credit place".split(" ")) {
            for (String sign : "< = >".split(" ")) {
                goodSentence(1, key + sign + "0");
                goodSentence(1, key + sign + "999");
            }
            wrongSentence(1, key + "^");
            wrongSentence(1, key + " ^1");
            wrongSentence(1, key + " ^;1");
            wrongSentence(1, key + " ^(1");
            wrongSentence(1, key + " <^");
            wrongSentence(1, key + " = ^a");
            wrongSentence(1, key + " > ^>1");
        }
    }

    private static void sentenceNests() {
        Doc.holds(38, "20 ONES, 8 within one another.");
        goodSentence(20, "free" + " and free".repeat(19));
        wrongSentence(4, "free" + " and free".repeat(19) + " and ^free");
        wrongSentence(4, "free" + " or free".repeat(19) + " or ^not free");
        wrongSentence(4, "free" + " or free".repeat(19) + " or ^(free)");
        goodSentence(8, "not ".repeat(7) + "free");
        wrongSentence(4, "not ".repeat(8) + "^free");
        goodSentence(8, "(".repeat(7) + "free" + ")".repeat(7));
        wrongSentence(4, "(".repeat(8) + "^free" + ")".repeat(8));
        goodSentence(8, "not(not(not(not free)))");
        wrongSentence(4, "not(not(not(not(^free))))");
        goodSentence(16, "not(not(not(not free)))and not(not(not(not free)))");
        goodSentence(20, "(((((((free or free or free or free or free or free)))))))or(not(not((free))))");

        Doc.holds(38, "how many ONES (each not, bracket and other one);");
        goodSentence(1, "need<3");
        goodSentence(2, "not free");
        goodSentence(2, "(free)");
        goodSentence(5, "not(free or false)or free");

        Doc.holds(38, "The tape is the SENTENCE now:");
        EarTown x = Kit.of(TWO + "free b;");
        Kit.sentence(x, "free");
        Kit.due("who is free", x.said(0), 1);
        Kit.sentence(x, "not free");
        Kit.due("who is not", x.said(0), 0);

        Doc.holds(38, "-1 less the place of a FAULT: it stays.");
        Kit.due("a FAULT at 0", Kit.sentence(x, "x"), -1);
        Kit.due("a FAULT at 4", Kit.sentence(x, "free;"), -5);
        Kit.due("a FAULT at 20", Kit.sentence(x, "free or place = 1 or"), -21);
        Kit.due("the SENTENCE that stays", x.said(0), 0);
        EarTown y = Kit.of(TWO);
        Kit.sentence(y, "free;");
        Kit.due("no SENTENCE that stays", y.said(-1), -1);
    }

    private static void faultOrder() {
        Doc.holds(5, "FAULTS, the first along the text, of one TOKEN the least:");
        wrongTown(2, "gift ^10;gift 10;");
        wrongTown(2, "person a ^100 25 10;person a 1 1 1;");
        wrongTown(2, "person a 1 ^25 10");
        wrongTown(3, TWO + "owes ^c c 0;");
        wrongTown(3, TWO + "owes a ^a 0;");
        wrongTown(3, TWO + "owes a b 1;owes b ^a 100;");
        wrongTown(3, TWO + "person ^a 100 1 1;");
        wrongTown(2, TWO + "person c ^100 1 1;person a 1 1 1;");
        wrongTown(4, eight("person p", " 1 1 1;") + "^person pa 100 1 1;");
        wrongBook(3, "strike;".repeat(30) + "^z hears a 1;");
        wrongBook(3, "strike;".repeat(30) + "^s hears a 1;");
        wrongBook(1, "strike;".repeat(30) + "^gift;");
        wrongBook(1, "strike;".repeat(30) + "^;");
        wrongBook(1, "strike;".repeat(30) + "^strike1;");
        wrongBook(4, "strike;".repeat(30) + "^day 0;");
        wrongSentence(1, "free" + " or free".repeat(19) + " or ^a");
        wrongSentence(1, "free" + " or free".repeat(19) + " or ^or");
        wrongSentence(1, "free" + " or free".repeat(19) + " or^");
        wrongSentence(4, "free" + " or free".repeat(19) + " or ^knows z");
        wrongSentence(1, "not ".repeat(8) + "^and");
        wrongSentence(1, "not ".repeat(8) + "^z");
        wrongSentence(4, "not ".repeat(8) + "^owes z");
    }

    private static void faultEnds() {
        Doc.holds(5, "1 no TOKEN, or one that can't come (at it; the end: how many bytes there are;");
        wrongTown(1, "gift ^!;");
        wrongTown(1, "gift ^gift;");
        wrongTown(1, "gift 1^");
        wrongTown(1, "gift 1  ^");
        wrongTown(1, "gift 1\n^");
        wrongTown(1, "gift^");
        wrongTown(1, "gift 1" + spaces(894) + "^");
        wrongBook(1, "day 1   ^");
        wrongBook(1, "day 1" + spaces(495) + "^");
        wrongSentence(1, "^");
        wrongSentence(1, "  ^");
        wrongSentence(1, "free and \n^");
        wrongSentence(1, "free or" + spaces(193) + "^");

        Doc.holds(5, "the most bytes told, if there are more and no FAULT is ahead: TOKENS that begin ahead of it are read whole)");
        wrongTown(1, "gift 1" + spaces(894) + "^ ");
        wrongTown(1, "gift ^a" + spaces(934));
        wrongTown(2, "gift ^10;" + spaces(931));
        wrongTown(2, spaces(894) + "gift ^99");
        wrongTown(2, spaces(894) + "gift ^999;gift");
        wrongTown(1, spaces(894) + "gift 9^;");
        wrongTown(1, spaces(893) + "gift 9;^;");
        wrongTown(1, spaces(894) + "gift ^9999");
        wrongTown(1, spaces(895) + "gift ^ 99");
        wrongTown(1, spaces(895) + "gift ^99");
        wrongTown(1, spaces(899) + "g^ift 9;");
        wrongTown(1, spaces(899) + "^gifts 9;");
        wrongTown(1, spaces(899) + "^giftgift 9;");
        wrongTown(1, spaces(900) + "^giftgift 9;");
        wrongTown(3, "gift 1;" + spaces(892) + "^gift 1;");
        wrongTown(1, "gift 1;" + spaces(893) + "^gift 1;");
        wrongBook(3, spaces(499) + "^z");
        wrongBook(1, spaces(500) + "^z");
        wrongBook(3, spaces(499) + "^zz hears a 1;");
        wrongBook(1, spaces(498) + "st^rike;");
        wrongBook(2, spaces(495) + "day ^31");
        wrongBook(4, "strike;".repeat(30) + spaces(289) + "^strike;");
        wrongBook(1, "strike;".repeat(30) + spaces(290) + "^strike;");
        wrongSentence(1, spaces(199) + "f^ree");
        wrongSentence(1, spaces(199) + "^frees");
        wrongSentence(1, spaces(200) + "^free");
        wrongSentence(1, spaces(193) + "need<9 ^and free");
        wrongSentence(3, spaces(193) + "knows ^a and free");
        wrongSentence(4, "free" + " or free".repeat(19) + spaces(40) + "or ^free");
    }

    private static void faultNames() {
        Doc.holds(5, "2 a NUMBER that is not as told (at it);");
        wrongTown(2, "gift ^10;");
        wrongTown(2, "ruin ^000;");
        wrongTown(2, "gift  \n ^10;");
        wrongBook(2, "day ^0;");
        wrongBook(2, "a hears b ^0;");

        Doc.holds(5, "3 a NAME told twice, not told, or of another sort,");
        wrongTown(3, TWO + "person ^a 1 1 1;");
        wrongTown(3, TWO + "story ^b a 1 1;");
        wrongTown(3, TWO + "free ^c;");
        wrongTown(3, TWO + "false ^c;");
        wrongTown(3, TWO + "owes ^c a 1;");
        wrongTown(3, TWO + "owes a ^c 1;");
        wrongTown(3, TWO + "story t ^c 1 1;");
        wrongTown(3, TWO + "story t ^t 1 1;");
        wrongTown(3, "free ^a;" + TWO);
        wrongTown(3, READ + "free ^s;");
        wrongTown(3, READ + "owes ^s a 1;");
        wrongTown(3, READ + "owes a ^s 1;");
        wrongTown(3, READ + "story t ^s 1 1;");
        wrongBook(3, "^z hears a 1;");
        wrongBook(3, "^s hears a 1;");
        wrongBook(3, "a hears ^z 1;");
        wrongBook(3, "a hears ^s 1;");
        wrongBook(3, "a tells ^z s;");
        wrongBook(3, "a tells ^s s;");
        wrongBook(3, "a tells b ^z;");
        wrongBook(3, "a tells b ^b;");
        wrongSentence(3, "knows ^z");
        wrongSentence(3, "knows ^a");
        wrongSentence(3, "owes ^z");
        wrongSentence(3, "owes ^s");

        Doc.holds(5, "what is told once told again (at the second PERSON, the PERSON, the WORD),");
        wrongTown(3, TWO + "owes a b 1;owes a ^b 1;");
        wrongTown(3, TWO + "owes a b 1;owes b ^a 1;");
        wrongTown(3, TWO + "free a;free ^a;");
        wrongTown(3, TWO + "false a;false ^a;");
        wrongTown(3, "gift 1;^gift 1;");
        wrongTown(3, "ruin 1;^ruin 1;");
        wrongTown(3, "ruin 1;^ruin 0;");

        Doc.holds(5, "a PERSON like the one ahead (at it; not in a BOOK);");
        wrongTown(3, TWO + "owes a ^a 1;");
        wrongTown(3, TWO + "owes b ^b 1;");
        goodBook("a hears a 1;", 0);
        goodBook("a tells a s;", 0);
    }

    private static void faultCounts() {
        Doc.holds(5, "4 a ninth PERSON, STORY, a 31st LINE of a BOOK (at the LINE's first WORD), a 21st ONE, a ninth within (at its first TOKEN).");
        String persons = eight("person p", " 1 1 1;");
        String stories = eight("story s", " pa 1 1;");
        wrongTown(4, persons + "  ^person z 1 1 1;");
        wrongTown(4, persons + "gift 1;^person");
        wrongTown(4, persons + stories + "\n^story z pa 1 1;");
        wrongTown(4, persons + stories + "^story");
        wrongBook(4, "strike;".repeat(30) + " ^a hears b 1;");
        wrongBook(4, "strike;".repeat(30) + "^day");
        wrongBook(4, "strike;".repeat(30) + "^strike");
        wrongSentence(4, "not free" + " or free".repeat(18) + " or ^free");
        wrongSentence(4, "not free" + " or free".repeat(18) + " or ^need < 3");
        wrongSentence(4, "(free)" + " or free".repeat(18) + " or ^(free)");
        wrongSentence(4, "(free)" + " or free".repeat(17) + " or not ^free");
        wrongSentence(4, "((((((((^place = 1))))))))");
        wrongSentence(4, "(((((((not ^not free)))))))");
        wrongSentence(4, "(((((((not ^(free))))))))");
        wrongSentence(4, "free or ((((((((^free))))))))");
    }

    private static void fault() {
        Doc.holds(5, "The kind of the FAULT of the latest town(), book() or sentence() (a book() of -1000 leaves it);");
        EarTown x = Kit.of(READ);
        Kit.town(x, "gift 10;");
        Kit.due("of a TOWN", x.fault(), 2);
        Kit.book(x, "z hears a 1;", 0);
        Kit.due("of a BOOK", x.fault(), 3);
        Kit.book(x, "day", 1);
        Kit.due("of a BOOK to be lived", x.fault(), 1);
        Kit.sentence(x, "not ".repeat(9));
        Kit.due("of a SENTENCE", x.fault(), 4);
        for (int lives : new int[] {2, -1, 3, Integer.MAX_VALUE, Integer.MIN_VALUE}) {
            Kit.feed(x, "day");
            Kit.due("book(" + lives + ")", x.book(lives), -1000);
            Kit.due("leaves it", x.fault(), 4);
        }
        x.end(0);
        Kit.feed(x, "zz");
        x.talked();
        x.restore(0);
        x.image(0);
        x.restore(0);
        x.undo();
        Kit.due("other calls leave it", x.fault(), 4);

        Doc.holds(5, "0 without one and ahead of any.");
        Kit.due("ahead of any", new EarTown().fault(), 0);
        Kit.sentence(x, "free");
        Kit.due("a SENTENCE without", x.fault(), 0);
        Kit.town(x, "gift 10;");
        Kit.book(x, "day 1;", 0);
        Kit.due("a BOOK without", x.fault(), 0);
        Kit.town(x, "gift 10;");
        Kit.book(x, "a hears a 1;", 0);
        Kit.due("a BOOK that is WRONG, but without", x.fault(), 0);
        Kit.town(x, "gift 10;");
        Kit.town(x, "gift 1;");
        Kit.due("a TOWN without", x.fault(), 0);
        EarTown y = new EarTown();
        y.book(2);
        Kit.due("ahead of any, book(2)", y.fault(), 0);
    }

    private static void count() {
        Doc.holds(42, "0 PERSONS, 1 STORIES, 2 'gift', 3 'ruin', 4 bytes of the tape.");
        EarTown x = Kit.of(TWO + "person c 1 1 1;story s a 1 1;story t a 1 1;gift 4;ruin 5;");
        Kit.feed(x, "seven..");
        int[] due = {3, 2, 4, 5, 7};
        for (int what = 0; what < 5; what++) {
            Kit.due("count(" + what + ")", x.count(what), due[what]);
        }

        Doc.holds(42, "NONE for another what.");
        for (int what : new int[] {-1, 5, 6, Integer.MIN_VALUE, Integer.MAX_VALUE}) {
            Kit.due("count(" + what + ")", x.count(what), -1);
        }
    }

    private static void calls() {
        Doc.holds(1, "An object is used for at most 512 calls after it has been made; what later calls answer is free.");
        EarTown x = new EarTown();
        for (int i = 1; i <= 512; i++) {
            Kit.due("call " + i, x.days(1), i);
        }
        EarTown y = Kit.of("person a 99 24 9;person b 99 24 9;");
        for (int i = 1; i <= 250; i++) {
            Kit.due("drawn() " + i, y.drawn(1, 9, i) >= 0, true);
            Kit.due("its undo()", y.undo(), 0);
        }
        Kit.due("the DAY behind them", y.now(0), 0);
    }
}
