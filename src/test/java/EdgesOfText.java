/** The tape and the rules that it tells: what the terms say of them, promises 2 to 6. */
final class EdgesOfText extends Edges {
    private static final String[] NUMBER_LINES = {"loan", "days", "lag", "life", "again"};
    private static final String[] KEYS = {"waited", "had", "late", "likes", "number"};
    private static final int[] UNTOLD = {2, 14, 2, 20, 0};

    private EdgesOfText() {
    }

    static void ask() {
        tape();
        tokens();
        grammar();
        bounds();
        once();
        faults();
        untold();
        feed();
        end();
        rules();
        fault();
        rule();
    }

    private static void tape() {
        says(TERMS, "THE TAPE has 200 bytes, places from 0.");
        SpokenBooks x = new SpokenBooks();
        write(x, " ".repeat(200));
        is("the 200th byte", x.count(11), 200);
        is("more", x.feed(0), FULL);
        faulty("$", 1, 0);
        faulty(" ".repeat(199) + "$", 1, 199);
        faulty(" ".repeat(196) + "loan", 2, 200);
        SpokenBooks last = good(" ".repeat(193) + "loan 5;", 1);
        is("told by the last bytes", last.rule(0), 5);
    }

    private static void tokens() {
        says(TERMS, "TOKENS, each as long as may be, blanks (32) between:");
        good("loan1;", 1);
        good("loan1;days2;queue+had,-late;right 1 2 3;", 4);
        good("  loan  1  ;  ", 1);
        good(" ".repeat(200), 0);
        faulty("loandays 1;", 1, 0);
        faulty("lo an 1;", 1, 0);
        faulty("loan 12;", 3, 5);
        faulty("loan 1 2;", 2, 7);
        faulty("right 1 23;", 2, 10);
        int[] noBlanks = {0, 9, 10, 11, 12, 13, 31, 33, 95, 127, 128, 160, 255};
        for (int b : noBlanks) {
            faulty("loan" + (char) b + "1;", 1, 4);
        }

        says(TERMS, "NAMES (a .. z)");
        good("again 1;", 1);
        faulty("`gain 1;", 1, 0);
        faulty("{", 1, 0);
        faulty("loan`1;", 1, 4);
        faulty("loan{1;", 1, 4);
        faulty("loana 1;", 1, 0);
        faulty("loanz 1;", 1, 0);
        faulty("loanA 1;", 1, 4);
        faulty("loanZ 1;", 1, 4);
        faulty("Loan 1;", 1, 0);
        faulty("loan" + (char) ('a' + 128) + " 1;", 1, 4);

        says(TERMS, "NUMBERS (1 to 3 figures)");
        is("one figure", good("life 9;", 1).rule(3), 9);
        is("two figures", good("life 90;", 1).rule(3), 90);
        is("three figures", good("life 009;", 1).rule(3), 9);
        is("three figures of a right", good("right 000 000 999;", 1).rule(40), 999);
        faulty("life 0009;", 1, 5);
        faulty("life 1/", 1, 6);
        faulty("life /", 1, 5);
        faulty("life 1:", 1, 6);
        faulty("life :", 1, 5);
        faulty("life " + (char) ('1' + 128), 1, 5);

        says(TERMS, "one + - , ; .");
        faulty("loan 1;;", 2, 7);
        faulty("queue ++had;", 2, 7);
        faulty("queue --had;", 2, 7);
        faulty("queue +had,,-late;", 2, 11);
        faulty("queue *had;", 1, 6);
        faulty("queue +had.", 1, 10);
        faulty("queue +had/", 1, 10);
        faulty("loan 1:", 1, 6);
        faulty("loan 1<", 1, 6);
        faulty("loan 1.", 1, 6);
        faulty("loan 1" + (char) (';' + 128), 1, 6);
    }

    private static void grammar() {
        says(TERMS, "text: { line }");
        good("", 0);
        good("loan 1;", 1);
        good("loan 1;days 1;", 2);
        good("right 0 1 2;right 1 1 2;right 2 1 2;right 3 1 2;right 4 1 2;right 5 1 2;right 6 1 2;right 7 1 2;"
            + "right 8 1 2;right 9 1 2;right 10 1 2;right 11 1 2;loan 1;lag 1;days 1;life 1;again 1;queue +had;", 18);
        faulty(";", 2, 0);
        faulty("1;", 2, 0);
        faulty("+had;", 2, 0);
        faulty("loan 1;,", 2, 7);

        says(TERMS, "line: loan N ; | days N ; | lag N ; | life N ; | again N ; | queue key { , key } ; | right N N N ;");
        for (String name : NUMBER_LINES) {
            int behind = name.length();
            good(name + " 1;", 1);
            faulty(name, 2, behind);
            faulty(name + ";", 2, behind);
            faulty(name + " loan 1;", 2, behind + 1);
            faulty(name + " had;", 2, behind + 1);
            faulty(name + " +1;", 2, behind + 1);
            faulty(name + " -1;", 2, behind + 1);
            faulty(name + " 1", 2, behind + 2);
            faulty(name + " 1,", 2, behind + 2);
            faulty(name + " 1 1;", 2, behind + 3);
            faulty(name + " 1 loan 1;", 2, behind + 3);
        }
        good("queue +had;", 1);
        good("queue +had,-late;", 1);
        faulty("queue", 2, 5);
        faulty("queue;", 2, 5);
        faulty("queue 1;", 2, 6);
        faulty("queue ,+had;", 2, 6);
        faulty("queue +had", 2, 10);
        faulty("queue +had,", 2, 11);
        faulty("queue +had,;", 2, 11);
        faulty("queue +had-late;", 2, 10);
        faulty("queue +had late;", 2, 11);
        faulty("queue +had 1;", 2, 11);
        good("right 1 2 3;", 1);
        faulty("right", 2, 5);
        faulty("right;", 2, 5);
        faulty("right 1", 2, 7);
        faulty("right 1;", 2, 7);
        faulty("right 1 2", 2, 9);
        faulty("right 1 2;", 2, 9);
        faulty("right 1,2,3;", 2, 7);
        faulty("right 1 2 3", 2, 11);
        faulty("right 1 2 3,", 2, 11);
        faulty("right 1 2 3 4;", 2, 12);
        faulty("right had", 2, 6);

        says(TERMS, "key: ( + | - ) KEY");
        is("the greatest first", good("queue +had;", 1).rule(10), 1);
        is("the least first", good("queue -had;", 1).rule(10), 11);
        faulty("queue had;", 2, 6);
        faulty("queue +had,late;", 2, 11);
        faulty("queue +", 2, 7);
        faulty("queue +;", 2, 7);
        faulty("queue +-had;", 2, 7);
        faulty("queue +1;", 2, 7);
        faulty("queue +loan;", 2, 7);
        faulty("queue -right;", 2, 7);

        says(TERMS, "KEY: waited, had, late, likes, number.");
        for (int key = 0; key < KEYS.length; key++) {
            is("+", good("queue +" + KEYS[key] + ";", 1).rule(10), key);
            is("-", good("queue -" + KEYS[key] + ";", 1).rule(10), key + 10);
            faulty(KEYS[key] + " 1;", 2, 0);
            faulty("queue +" + KEYS[key] + "s;", 1, 7);
            faulty("queue +" + KEYS[key].substring(1) + ";", 1, 7);
        }
    }

    private static void bounds() {
        says(TERMS, "loan: 1 to 6 (COPIES at once)");
        bound(0, 1, 6);
        says(TERMS, "days: 1 to 60 (kept)");
        bound(1, 1, 60);
        says(TERMS, "lag: 0 to 9 (by post)");
        bound(2, 0, 9);
        says(TERMS, "life: 1 to 99 (PLAYS)");
        bound(3, 1, 99);
        says(TERMS, "again: 0 to 99 (days until one may have a TITLE again; 0: never).");
        bound(4, 0, 99);

        says(TERMS, "right: a TITLE (0 to 11),");
        is("TITLE 0", good("right 0 5 6;", 1).rule(20), 5);
        is("TITLE 11", good("right 11 5 6;", 1).rule(31), 5);
        faulty("right 12 5 6;", 3, 6);
        faulty("right 999 5 6;", 3, 6);
        faulty("right 1000 5 6;", 1, 6);

        says(TERMS, "the days from which up to which it may be sent (0 to 999 each, the second one not below the first).");
        is("from 0", good("right 1 0 0;", 1).rule(21), 0);
        is("to 0", good("right 1 0 0;", 1).rule(41), 0);
        is("from 999", good("right 1 999 999;", 1).rule(21), 999);
        is("to 999", good("right 1 998 999;", 1).rule(41), 999);
        faulty("right 1 1000 1000;", 1, 8);
        faulty("right 1 999 1000;", 1, 12);
        faulty("right 1 1 0;", 3, 10);
        faulty("right 1 999 998;", 3, 12);
        faulty("right 1 50 49;", 3, 11);
        good("right 1 50 50;", 1);
        good("right 1 50 51;", 1);
    }

    /** A number line's last numbers that are allowed, the first that are not. */
    private static void bound(int what, int least, int most) {
        String name = NUMBER_LINES[what];
        is("least", good(name + " " + least + ";", 1).rule(what), least);
        is("most", good(name + " " + most + ";", 1).rule(what), most);
        if (least > 0) {
            faulty(name + " " + (least - 1) + ";", 3, name.length() + 1);
        }
        faulty(name + " " + (most + 1) + ";", 3, name.length() + 1);
        faulty(name + " 999;", 3, name.length() + 1);
    }

    private static void once() {
        says(TERMS, "loan, days, lag, life, again, queue once each,");
        for (String name : NUMBER_LINES) {
            String once = name + " 1;";
            faulty(once + once, 4, once.length());
            faulty(once + "queue +had;right 1 1 1;" + once, 4, once.length() + 23);
        }
        faulty("queue +had;queue +late;", 4, 11);
        faulty("queue +had;loan 1;queue +had;", 4, 18);
        good("loan 1;days 1;lag 1;life 1;again 1;queue +had;", 6);

        says(TERMS, "right once for a TITLE.");
        good("right 1 1 1;right 2 1 1;right 0 1 1;right 11 1 1;", 4);
        faulty("right 1 1 1;right 1 2 2;", 4, 18);
        faulty("right 0 0 0;right 0 0 0;", 4, 18);
        faulty("right 11 0 0;right 0 0 0;right 011 0 0;", 4, 31);
    }

    private static void faults() {
        says(TERMS, "FAULTS, the first met as it is read (a TOKEN is read when the one before has been taken):");
        faulty("loan 7$", 3, 5);
        faulty("loan 7loan", 3, 5);
        faulty("loan,$", 2, 4);
        faulty("loan 1,$", 2, 6);
        faulty("loan 1;loan$", 4, 7);
        faulty("right 12$", 3, 6);
        faulty("right 1 2 1$", 3, 10);
        faulty("right 1 1 1;right 1$", 4, 18);
        faulty("queue +had,+had$", 4, 12);
        faulty("queue+loan$", 2, 6);
        faulty("queue +had+$", 2, 10);
        faulty("loan 1;$", 1, 7);
        faulty("$loan 9;", 1, 0);
        faulty("loan 9;days 99;", 3, 5);
        faulty("days 60;loan 9;loan", 3, 13);
        faulty("loan 1;days;loan 1;", 2, 11);
        faulty("loan 1;loan 9;x", 4, 7);

        says(TERMS, "1 no TOKEN, a NAME that is none of these, a NUMBER that is too long (its first byte).");
        faulty("  $", 1, 2);
        faulty("loan 1;  days $", 1, 14);
        faulty("  lend 1;", 1, 2);
        faulty("l", 1, 0);
        faulty("loa 1;", 1, 0);
        faulty("loans 1;", 1, 0);
        faulty("waitedx 1;", 1, 0);
        faulty("waitednumber", 1, 0);
        faulty("laglife 1;", 1, 0);
        faulty("loan lend;", 1, 5);
        faulty("queue +lend;", 1, 7);
        faulty("a".repeat(200), 1, 0);
        faulty("loan  1234;", 1, 6);
        faulty("loan 0000;", 1, 5);
        faulty("1234;", 1, 0);
        faulty("queue +1234;", 1, 7);
        faulty("9".repeat(200), 1, 0);

        says(TERMS, "2 a TOKEN that can not stand there (or the end: the length).");
        faulty("  had", 2, 2);
        faulty("loan  ;", 2, 6);
        faulty("loan 1  days", 2, 8);
        faulty("loan", 2, 4);
        faulty("loan  ", 2, 6);
        faulty("loan 1   ", 2, 9);
        faulty("queue +had,  ", 2, 13);
        SpokenBooks x = new SpokenBooks();
        write(x, "loan 1;");
        x.end(6);
        is("the end where the tape was cut", x.rules(), -16);
        is("its fault", x.fault(), 2);
        cut("life 12;", 6, 2, 6);
        cut("loan 1", 3, 1, 0);
        cut("loan      ", 6, 2, 6);
        cut("loan 1;;", 7, 0, 0);
        cut("right 1 1 9991", 13, 2, 13);

        says(TERMS, "3 a NUMBER out of its bounds.");
        faulty("loan  7;", 3, 6);
        faulty("  days 0;", 3, 7);
        faulty("loan 1;lag 10", 3, 11);
        faulty("right  12 1 1;", 3, 7);
        faulty("right 1 2  1;", 3, 11);

        says(TERMS, "4 what is told already (at its NAME; right: at the TITLE, behind 3; a KEY that is a key already: it).");
        faulty("loan 1;  loan 9;", 4, 9);
        faulty("queue +had;  queue 1", 4, 13);
        faulty("right 1 1 1;right  1 2 1;", 4, 19);
        faulty("right 1 1 1;right 12 1 1;", 3, 18);
        faulty("right 1 1 1;right;", 2, 17);
        faulty("queue +had,+ had;", 4, 13);
        faulty("queue +had,-had;", 4, 12);
        faulty("queue -number,+waited,-number;", 4, 23);
        faulty("queue +waited,+had,+late,+likes,+number,+waited;", 4, 41);
    }

    /** A text that was cut behind n bytes, with what comes of it; the bytes behind are not read. */
    private static void cut(String text, int n, int fault, int place) {
        SpokenBooks x = new SpokenBooks();
        write(x, text);
        x.end(n);
        is("rules() of '" + text + "' cut to " + n, x.rules(), fault == 0 ? 1 : -10 - place);
        is("fault() of '" + text + "' cut to " + n, x.fault(), fault);
    }

    private static void untold() {
        String[] lines = {"loan 5;", "days 5;", "lag 5;", "life 5;", "again 5;", "queue -had;", "right 7 5 5;"};
        says(TERMS, "What is not told: loan 2, days 14, lag 2, life 20, again 0, queue + waited, no rights");
        for (int without = 0; without < lines.length; without++) {
            StringBuilder text = new StringBuilder();
            for (int i = 0; i < lines.length; i++) {
                text.append(i == without ? "" : lines[i]);
            }
            SpokenBooks x = good(text.toString(), 6);
            for (int what = 0; what < 5; what++) {
                is("rule(" + what + ") without " + lines[without], x.rule(what), what == without ? UNTOLD[what] : 5);
            }
            is("how many keys", x.rule(5), 1);
            is("the key without " + lines[without], x.rule(10), without == 5 ? 0 : 11);
            is("the right's first without " + lines[without], x.rule(27), without == 6 ? NONE : 5);
            is("the right's last without " + lines[without], x.rule(47), without == 6 ? NONE : 5);
        }

        says(TERMS, "(a TITLE may be sent at any time).");
        SpokenBooks x = house("", 1, 0, 1);
        is("on day 0", x.may(0, 0), 1);
        days(x, 99);
        is("on day 99", x.may(0, 0), 1);
    }

    private static void feed() {
        says(2, "Eight bytes come behind THE TAPE, the highest first: how many it has.");
        SpokenBooks x = new SpokenBooks();
        is("'loan 3; '", x.feed(0x6c6f616e20333b20L), 8);
        is("'days 4; '", x.feed(0x6461797320343b20L), 16);
        is("count(11)", x.count(11), 16);
        is("both are read", x.rules(), 2);
        is("loan", x.rule(0), 3);
        is("days", x.rule(1), 4);
        SpokenBooks y = new SpokenBooks();
        y.feed(0x6c6f616e20333b20L);
        y.end(5);
        is("behind five bytes", y.feed(0x343b6c6167203120L), 13);
        y.end(12);
        is("feed", y.feed(0x3b20202020202020L), 20);
        is("'loan 4;lag 1;       '", y.rules(), 2);
        is("loan", y.rule(0), 4);
        is("lag", y.rule(2), 1);
        long[] values = {0, -1, Long.MIN_VALUE, Long.MAX_VALUE, 0x8080808080808080L};
        for (long v : values) {
            SpokenBooks z = new SpokenBooks();
            is("feed(" + v + ")", z.feed(v), 8);
            is("rules()", z.rules(), -10);
            is("fault()", z.fault(), 1);
        }

        says(2, "FULL: more than 200.");
        for (int had = 192; had <= 200; had++) {
            SpokenBooks z = new SpokenBooks();
            write(z, " ".repeat(had - 1) + "$");
            is("feed at " + had, z.feed(0x2424242424242424L), had == 192 ? 200 : FULL);
            is("count(11)", z.count(11), had == 192 ? 200 : had);
            is("its bytes are those it had", z.rules(), -10 - (had - 1));
        }
    }

    private static void end() {
        says(3, "THE TAPE keeps its first n bytes: how many it had.");
        SpokenBooks x = new SpokenBooks();
        is("end(0) of nothing", x.end(0), 0);
        write(x, "loan 1;lag 1;$$$");
        is("all of them", x.end(16), 16);
        is("all but the last three", x.end(13), 16);
        is("the same again", x.end(13), 13);
        is("count(11)", x.count(11), 13);
        is("the first are kept", x.rules(), 2);
        write(x, "loan 1;lag 1;$$$");
        is("none", x.end(0), 16);
        is("count(11)", x.count(11), 0);
        is("nothing is read", x.rules(), 0);
        write(x, " ".repeat(200));
        is("199 of 200", x.end(199), 200);
        is("200 again", x.end(200), BAD);

        says(3, "BAD.");
        SpokenBooks y = new SpokenBooks();
        is("end(1) of nothing", y.end(1), BAD);
        is("end(-1) of nothing", y.end(-1), BAD);
        write(y, "loan 1;$");
        y.end(7);
        int[] bad = {8, 9, 200, 201, MAX, -1, -4, MIN};
        for (int n : bad) {
            is("end(" + n + ") of 7", y.end(n), BAD);
        }
        is("count(11)", y.count(11), 7);
        is("its bytes stay", y.rules(), 1);
    }

    private static void rules() {
        String first = "loan 3;days 4;lag 5;life 6;again 7;queue -likes,+late;right 1 8 9;";
        says(4, "THE TAPE (empty then) tells all rules, in place of those there were: how many lines;");
        SpokenBooks x = new SpokenBooks();
        is("seven lines", tell(x, first), 7);
        holds(x, new int[] {3, 4, 5, 6, 7, 2}, 13, 2, 8, 9);
        is("the tape is empty then", x.count(11), 0);
        is("one line", tell(x, "right 2 1 1;"), 1);
        holds(x, new int[] {2, 14, 2, 20, 0, 1}, 0, BAD, NONE, NONE);
        is("a right of before may be told anew", tell(x, "right 1 8 9;right 2 1 1;"), 2);
        is("the tape is empty then", x.count(11), 0);
        tell(x, first);
        is("the empty tape tells that nothing is told", x.rules(), 0);
        holds(x, new int[] {2, 14, 2, 20, 0, 1}, 0, BAD, NONE, NONE);

        says(4, "-10 less the place of its FAULT: those that were told stay.");
        tell(x, first);
        String[] faultyTexts = {"$", "loan 1;$", "days 1;$", "lag 1;$", "life 1;$", "again 1;$", "queue +waited;$",
            "queue +waited,+had,+number$", "right 1 1 1;$", "right 2 1 1;$", "right 1 1$", "loan", "loan 1", "loan 9;",
            "loan 1;loan 1;", "queue +had,+had;", "queue +had,", "right 1 3 2;", "right 1 2 3;right 1 2 3;"};
        int[] places = {0, 7, 7, 6, 7, 8, 14, 26, 12, 12, 9, 4, 6, 5, 7, 12, 11, 10, 18};
        for (int i = 0; i < faultyTexts.length; i++) {
            is("rules() of '" + faultyTexts[i] + "'", tell(x, faultyTexts[i]), -10 - places[i]);
            is("the tape is empty then", x.count(11), 0);
            holds(x, new int[] {3, 4, 5, 6, 7, 2}, 13, 2, 8, 9);
            is("no right of the faulty text", x.rule(22), NONE);
        }
        is("a good text behind faulty ones", tell(x, "right 2 3 4;"), 1);
        holds(x, new int[] {2, 14, 2, 20, 0, 1}, 0, BAD, NONE, NONE);
        is("its right", x.rule(22), 3);
    }

    private static void holds(SpokenBooks x, int[] numbers, int key0, int key1, int from1, int to1) {
        for (int what = 0; what < numbers.length; what++) {
            is("rule(" + what + ")", x.rule(what), numbers[what]);
        }
        is("rule(10)", x.rule(10), key0);
        is("rule(11)", x.rule(11), key1);
        is("rule(21)", x.rule(21), from1);
        is("rule(41)", x.rule(41), to1);
    }

    private static void fault() {
        says(5, "The FAULT of the latest rules(); 0.");
        SpokenBooks x = new SpokenBooks();
        is("before any rules()", x.fault(), 0);
        String[] texts = {"$", "loan;", "loan 9;", "loan 1;loan 1;", "loan 1;", "loan 9;", "$", "loan 1;loan"};
        int[] due = {1, 2, 3, 4, 0, 3, 1, 4};
        for (int i = 0; i < texts.length; i++) {
            tell(x, texts[i]);
            is("fault() of '" + texts[i] + "'", x.fault(), due[i]);
            is("once more", x.fault(), due[i]);
        }
        x.feed(0x6c6f616e20333b20L);
        is("behind feed, before rules()", x.fault(), 4);
        x.end(9);
        is("behind a refused end", x.fault(), 4);
        x.end(0);
        x.day();
        x.reader(0);
        is("behind other calls", x.fault(), 4);
        x.rules();
        is("behind an empty text", x.fault(), 0);
    }

    private static void rule() {
        says(6, "What holds: 0 loan, 1 days, 2 lag, 3 life, 4 again, 5 how many keys;");
        SpokenBooks x = good("loan 3;days 4;lag 5;life 6;again 7;queue -likes,+late,-had,+number,-waited;"
            + "right 0 8 9;right 11 0 999;", 8);
        int[] due = {3, 4, 5, 6, 7, 5};
        for (int what = 0; what < due.length; what++) {
            is("rule(" + what + ")", x.rule(what), due[what]);
        }

        says(6, "10 and i: KEY i (0 waited, 1 had, 2 late, 3 likes, 4 number; 10 more, if it is -);");
        int[] keys = {13, 2, 11, 4, 10};
        for (int i = 0; i < keys.length; i++) {
            is("rule(" + (10 + i) + ")", x.rule(10 + i), keys[i]);
        }
        is("rule(9)", x.rule(9), BAD);
        is("rule(15)", x.rule(15), BAD);
        for (int many = 1; many <= 5; many++) {
            StringBuilder text = new StringBuilder("queue +waited");
            for (int i = 1; i < many; i++) {
                text.append(",+").append(KEYS[i]);
            }
            SpokenBooks y = good(text.append(';').toString(), 1);
            is("how many keys", y.rule(5), many);
            is("the last of " + many, y.rule(9 + many), many - 1);
            is("behind the last of " + many, y.rule(10 + many), BAD);
        }

        says(6, "20 and t: the first day of the right of TITLE t (NONE), 40 and t: the last.");
        is("rule(20)", x.rule(20), 8);
        is("rule(40)", x.rule(40), 9);
        is("rule(31)", x.rule(31), 0);
        is("rule(51)", x.rule(51), 999);
        for (int t = 1; t < 11; t++) {
            is("rule(" + (20 + t) + ")", x.rule(20 + t), NONE);
            is("rule(" + (40 + t) + ")", x.rule(40 + t), NONE);
        }

        says(6, "BAD.");
        int[] bad = {-1, -2, -3, -4, 6, 7, 8, 9, 15, 16, 19, 32, 33, 39, 52, 53, 60, 71, 100, MAX, MIN, MIN + 20};
        for (int what : bad) {
            is("rule(" + what + ")", x.rule(what), BAD);
        }
    }
}
