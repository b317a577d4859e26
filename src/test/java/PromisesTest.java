/** Each promise of the document with answers worked out by hand: ordinary inputs, edges, wrong inputs. */
public final class PromisesTest {
    private static final int BAD = -1, STATE = -2, FULL = -3, NONE = -4;
    private static final int MAX = Integer.MAX_VALUE, MIN = Integer.MIN_VALUE;
    private static int wrong;
    private static int asked;
    private static int promise;

    private static void is(String call, int got, int want) {
        asked++;
        if (got != want) {
            wrong++;
            System.out.println("promise " + promise + ": " + call + " answered " + got + ", due is " + want);
        }
    }

    /** Feeds a text, eight bytes at a time, and cuts what was filled up behind it. */
    private static void write(SpokenBooks x, String text) {
        int before = x.count(11);
        for (int i = 0; i < text.length(); i += 8) {
            long v = 0;
            for (int j = i; j < i + 8; j++) {
                v = v << 8 | (j < text.length() ? text.charAt(j) : ' ');
            }
            x.feed(v);
        }
        x.end(before + text.length());
    }

    private static int tell(SpokenBooks x, String text) {
        write(x, text);
        return x.rules();
    }

    private static void faulty(String text, int fault, int place) {
        SpokenBooks x = new SpokenBooks();
        is("rules() of '" + text + "'", tell(x, text), -10 - place);
        is("fault() of '" + text + "'", x.fault(), fault);
    }

    /** A house with one reader of each tongue 0 to 3 and so many titles of tongue 0, kin t % 8, with a side of 10 t + 10. */
    private static SpokenBooks house(int titles) {
        SpokenBooks x = new SpokenBooks();
        for (int tongue = 0; tongue < 4; tongue++) {
            x.reader(tongue);
        }
        for (int t = 0; t < titles; t++) {
            x.title(0, t % 8, 0);
            x.side(t, 10 * (t % 8) + 10);
        }
        return x;
    }

    private static void days(SpokenBooks x, int n) {
        for (int i = 0; i < n; i++) {
            x.day();
        }
    }

    public static void main(String[] args) {
        Runnable[] promises = {
            PromisesTest::aNewObject, PromisesTest::feed, PromisesTest::end, PromisesTest::rules, PromisesTest::fault,
            PromisesTest::rule, PromisesTest::reader, PromisesTest::title, PromisesTest::side, PromisesTest::titleOf,
            PromisesTest::copy, PromisesTest::copyOf, PromisesTest::back, PromisesTest::lose, PromisesTest::listener,
            PromisesTest::told, PromisesTest::ask, PromisesTest::unask, PromisesTest::request, PromisesTest::may,
            PromisesTest::queue, PromisesTest::day, PromisesTest::serve, PromisesTest::parcels, PromisesTest::program,
            PromisesTest::error, PromisesTest::errorOf, PromisesTest::all, PromisesTest::habit, PromisesTest::led,
            PromisesTest::known, PromisesTest::sheet, PromisesTest::lay, PromisesTest::sides, PromisesTest::count,
        };
        for (promise = 1; promise <= promises.length; promise++) {
            promises[promise - 1].run();
        }
        fullHouse();
        System.out.println(asked + " answers, " + wrong + " not as due");
        if (wrong != 0) {
            System.exit(1);
        }
    }

    private static void aNewObject() {
        SpokenBooks x = new SpokenBooks();
        for (int what = 0; what < 12; what++) {
            is("count(" + what + ")", x.count(what), 0);
        }
        is("count(12)", x.count(12), NONE);
        for (int k = 0; k < 4; k++) {
            is("lay(" + k + ", 0, 0)", x.lay(k, 0, 0), -11);
        }
        is("fault()", x.fault(), 0);
        int[] untold = {2, 14, 2, 20, 0, 1};
        for (int what = 0; what < untold.length; what++) {
            is("rule(" + what + ")", x.rule(what), untold[what]);
        }
        is("rule(10)", x.rule(10), 0);
        is("rule(20)", x.rule(20), NONE);
        is("rule(51)", x.rule(51), NONE);
        is("serve()", x.serve(), 0);
        is("parcels(0)", x.parcels(0), 0);
        is("program(0)", x.program(0, 1, 1, 1, 1, 0), 0);
        is("program(1)", x.program(1, 1, 1, 1, 1, 0), BAD);
        SpokenBooks y = new SpokenBooks();
        y.reader(0);
        is("another's count(0)", x.count(0), 0);
    }

    private static void feed() {
        SpokenBooks x = new SpokenBooks();
        for (int i = 1; i <= 25; i++) {
            is("feed", x.feed(i % 2 == 0 ? -1L : Long.MIN_VALUE), 8 * i);
        }
        is("feed beyond 200", x.feed(0), FULL);
        is("count(11)", x.count(11), 200);
        x.end(193);
        is("feed at 193", x.feed(0), FULL);
        x.end(192);
        is("feed at 192", x.feed(0), 200);
        SpokenBooks y = new SpokenBooks();
        y.feed(0x6c6f616e20353b20L);
        is("the highest byte first", y.rules(), 1);
        is("rule(0)", y.rule(0), 5);
        y.feed(0x6c6f616e20ffff80L);
        is("a byte above 127 is no token", y.rules(), -15);
        is("fault()", y.fault(), 1);
    }

    private static void end() {
        SpokenBooks x = new SpokenBooks();
        is("end(0)", x.end(0), 0);
        is("end(1)", x.end(1), BAD);
        x.feed(0);
        x.feed(0);
        is("end(17)", x.end(17), BAD);
        is("end(-1)", x.end(-1), BAD);
        is("end(MAX)", x.end(MAX), BAD);
        is("end(MIN)", x.end(MIN), BAD);
        is("end(16)", x.end(16), 16);
        is("end(5)", x.end(5), 16);
        is("count(11)", x.count(11), 5);
        is("end(6)", x.end(6), BAD);
        is("feed behind 5", x.feed(0), 13);
        write(x, "");
        x.end(0);
        is("what was cut is not read", tell(x, "lag 9;"), 1);
    }

    private static void rules() {
        SpokenBooks x = new SpokenBooks();
        is("blanks alone", tell(x, "   "), 0);
        is("all lines", tell(x, " loan6;days60 ;lag 0; life 099;again 99 ;queue+number,- late;right 11 0 999;right 0 7 7;"), 8);
        is("count(11)", x.count(11), 0);
        int[] now = {6, 60, 0, 99, 99, 2};
        for (int what = 0; what < now.length; what++) {
            is("rule(" + what + ")", x.rule(what), now[what]);
        }
        is("rule(10)", x.rule(10), 4);
        is("rule(11)", x.rule(11), 12);
        is("rule(12)", x.rule(12), BAD);
        is("rule(31)", x.rule(31), 0);
        is("rule(51)", x.rule(51), 999);
        is("a fault", tell(x, "loan 1;days 1;right 3 1 2;queue -waited;loan"), -50);
        is("those told stay: loan", x.rule(0), 6);
        is("those told stay: days", x.rule(1), 60);
        is("those told stay: keys", x.rule(5), 2);
        is("those told stay: rights", x.rule(23), NONE);
        is("the tape is empty behind a fault", x.count(11), 0);
        is("in place of those there were", tell(x, "days 3;"), 1);
        int[] then = {2, 3, 2, 20, 0, 1};
        for (int what = 0; what < then.length; what++) {
            is("rule(" + what + ")", x.rule(what), then[what]);
        }
        is("rule(10)", x.rule(10), 0);
        is("rule(31)", x.rule(31), NONE);
        is("rule(40)", x.rule(40), NONE);
        is("five keys", tell(x, "queue -number,-likes,-late,-had,-waited;"), 1);
        for (int i = 0; i < 5; i++) {
            is("rule(" + (10 + i) + ")", x.rule(10 + i), 14 - i);
        }
        is("an empty text", x.rules(), 0);
        is("an empty text tells that nothing is told", x.rule(10), 0);
        is("an empty text tells one key", x.rule(5), 1);
        is("a full tape", tell(x, "right 0 1 2;right 1 1 2;right 2 1 2;right 3 1 2;right 4 1 2;right 5 1 2;right 6 1 2;"
            + "right 7 1 2;right 8 1 2;right 9 1 2;right 10 1 2;right 11 1 2;loan 1;lag 1;days 1;life 1;again 1;queue +had;  "), 18);
        is("rule(51)", x.rule(51), 2);
        is("200 blanks", tell(x, " ".repeat(200)), 0);
        is("a line that ends with the tape", tell(x, " ".repeat(193) + "loan 5;"), 1);
        is("rule(0)", x.rule(0), 5);
        is("200 letters", tell(x, "a".repeat(200)), -10);
        is("200 figures", tell(x, "1".repeat(200)), -10);
        is("a word that ends with the tape", tell(x, " ".repeat(196) + "loan"), -210);
        is("the first bounds", tell(x, "loan 1;days 1;lag 0;life 1;again 0;"), 5);
    }

    private static void fault() {
        faulty("Loan 1;", 1, 0);
        faulty("  {", 1, 2);
        faulty("`", 1, 0);
        faulty("loan 1.", 1, 6);
        faulty("loan\t1;", 1, 4);
        faulty("loan 0001;", 1, 5);
        faulty("  loanloan 1;", 1, 2);
        faulty("loan day;", 1, 5);
        faulty("waitedx", 1, 0);
        faulty("moan 1;", 1, 0);
        faulty("queue +numbex;", 1, 7);
        faulty("queue +hat;", 1, 7);
        faulty("lo", 1, 0);
        faulty("loan /", 1, 5);
        faulty("loan :", 1, 5);
        faulty("3loan;", 2, 0);
        faulty("loan", 2, 4);
        faulty("loan   ", 2, 7);
        faulty("loan ;", 2, 5);
        faulty("loan days;", 2, 5);
        faulty("loan 1", 2, 6);
        faulty("loan 1,", 2, 6);
        faulty("loan 1 2;", 2, 7);
        faulty("loan +1;", 2, 5);
        faulty(";", 2, 0);
        faulty("waited 1;", 2, 0);
        faulty("number;", 2, 0);
        faulty("queue", 2, 5);
        faulty("queue +", 2, 7);
        faulty("queue + ;", 2, 8);
        faulty("queue ++had;", 2, 7);
        faulty("queue +5;", 2, 7);
        faulty("queue +had", 2, 10);
        faulty("queue +had -late;", 2, 11);
        faulty("queue +had,;", 2, 11);
        faulty("queue +had,late;", 2, 11);
        faulty("queue +right;", 2, 7);
        faulty("right 1 2;", 2, 9);
        faulty("right 1,", 2, 7);
        faulty("right 1 2 3", 2, 11);
        faulty("loan 7;", 3, 5);
        faulty("loan 0;", 3, 5);
        faulty("days 61;", 3, 5);
        faulty("days 0;", 3, 5);
        faulty("lag 10;", 3, 4);
        faulty("life 0;", 3, 5);
        faulty("life 100;", 3, 5);
        faulty("again 100;", 3, 6);
        faulty("right 12 $", 3, 6);
        faulty("right 1 9 8;", 3, 10);
        faulty("right 1 1000 8;", 1, 8);
        faulty("loan 7$", 3, 5);
        faulty("days 1;days$", 4, 7);
        faulty("lag 1; lag", 4, 7);
        faulty("life 1; life 0;", 4, 8);
        faulty("again 1; again 0;", 4, 9);
        faulty("queue +had;queue +late;", 4, 11);
        faulty("queue +had,+had;", 4, 12);
        faulty("queue +had,-late,-had$", 4, 18);
        faulty("right 1 2 3;right 01 2 3;", 4, 18);
        faulty("right 1 2 3;right 12 2 3;", 3, 18);
        faulty("queue +waited,+had,+late,+likes,+number,+waited;", 4, 41);
        faulty("loan 1;queue -had,-late;x", 1, 24);
        SpokenBooks x = new SpokenBooks();
        tell(x, "loan 9;");
        x.feed(0);
        is("fault() stays till the next rules()", x.fault(), 3);
        x.end(0);
        x.rules();
        is("fault() behind a good text", x.fault(), 0);
    }

    private static void rule() {
        SpokenBooks x = new SpokenBooks();
        int[] none = {-1, 6, 7, 8, 9, 11, 14, 15, 19, 32, 33, 39, 52, 60, MAX, MIN};
        for (int what : none) {
            is("rule(" + what + ")", x.rule(what), BAD);
        }
        tell(x, "queue +had,-likes;right 5 6 8;right 0 0 0;");
        is("rule(10)", x.rule(10), 1);
        is("rule(11)", x.rule(11), 13);
        is("rule(12)", x.rule(12), BAD);
        is("rule(25)", x.rule(25), 6);
        is("rule(45)", x.rule(45), 8);
        is("rule(20)", x.rule(20), 0);
        is("rule(40)", x.rule(40), 0);
        is("rule(24)", x.rule(24), NONE);
        is("rule(44)", x.rule(44), NONE);
    }

    private static void reader() {
        SpokenBooks x = new SpokenBooks();
        is("reader(-1)", x.reader(-1), BAD);
        is("reader(4)", x.reader(4), BAD);
        for (int r = 0; r < 6; r++) {
            is("reader", x.reader(r % 4), r);
        }
        is("reader, the seventh", x.reader(0), FULL);
        is("reader, BAD first", x.reader(4), BAD);
        is("count(0)", x.count(0), 6);
    }

    private static void title() {
        SpokenBooks x = new SpokenBooks();
        is("without a reader", x.title(0, 0, 0), BAD);
        x.reader(0);
        x.reader(3);
        is("tongue -1", x.title(-1, 0, 0), BAD);
        is("tongue 4", x.title(4, 0, 0), BAD);
        is("kin -1", x.title(0, -1, 0), BAD);
        is("kin 8", x.title(0, 8, 0), BAD);
        is("reader -1", x.title(0, 0, -1), BAD);
        is("reader 2", x.title(0, 0, 2), BAD);
        is("another tongue", x.title(0, 0, 1), BAD);
        is("count(1)", x.count(1), 0);
        for (int t = 0; t < 12; t++) {
            is("title", x.title(t % 2 * 3, t % 8, t % 2), t);
        }
        is("the thirteenth", x.title(0, 0, 0), FULL);
        is("BAD first", x.title(0, 0, 1), BAD);
        is("titleOf(7, 3)", x.titleOf(7, 3), 0);
    }

    private static void side() {
        SpokenBooks x = house(0);
        is("no title", x.side(0, 1), BAD);
        x.title(0, 0, 0);
        is("title -1", x.side(-1, 1), BAD);
        is("minutes 0", x.side(0, 0), BAD);
        is("minutes 91", x.side(0, 91), BAD);
        for (int i = 1; i <= 8; i++) {
            is("side", x.side(0, i == 8 ? 90 : i), i);
        }
        is("the ninth", x.side(0, 1), FULL);
        is("BAD first", x.side(0, 91), BAD);
        is("titleOf(0, 4)", x.titleOf(0, 4), 118);
    }

    private static void titleOf() {
        SpokenBooks x = house(1);
        x.title(2, 5, 2);
        is("0", x.titleOf(1, 0), 2);
        is("1", x.titleOf(1, 1), 5);
        is("2", x.titleOf(1, 2), 2);
        is("3", x.titleOf(1, 3), 0);
        is("4", x.titleOf(1, 4), 0);
        is("10 without sides", x.titleOf(1, 10), BAD);
        x.side(1, 7);
        x.side(1, 8);
        is("3", x.titleOf(1, 3), 2);
        is("4", x.titleOf(1, 4), 15);
        is("10", x.titleOf(1, 10), 7);
        is("11", x.titleOf(1, 11), 8);
        is("12", x.titleOf(1, 12), BAD);
        x.copy(0);
        x.copy(1);
        x.copy(1);
        x.copy(1);
        x.listener(4, 0);
        x.ask(0, 1);
        x.ask(0, 0);
        is("7", x.titleOf(1, 7), 1);
        x.serve();
        is("5", x.titleOf(1, 5), 3);
        is("6", x.titleOf(1, 6), 2);
        is("7 served", x.titleOf(1, 7), 0);
        is("7 of another", x.titleOf(0, 7), 1);
        x.lose(1);
        is("5 with a lost one", x.titleOf(1, 5), 3);
        is("6 with a lost one", x.titleOf(1, 6), 2);
        x.error(1, 0, 0, 1);
        x.error(1, 1, 0, 1);
        x.error(0, 0, 0, 1);
        is("8", x.titleOf(1, 8), 2);
        int[] none = {-1, 9, 18, 20, MAX, MIN, MIN + 9, MIN + 10};
        for (int what : none) {
            is("titleOf(1, " + what + ")", x.titleOf(1, what), BAD);
        }
        is("titleOf(2, 0)", x.titleOf(2, 0), BAD);
        is("titleOf(-1, 0)", x.titleOf(-1, 0), BAD);
    }

    private static void copy() {
        SpokenBooks x = house(1);
        x.title(0, 0, 0);
        is("no title", x.copy(2), BAD);
        is("title -1", x.copy(-1), BAD);
        is("no sides", x.copy(1), STATE);
        for (int c = 0; c < 24; c++) {
            is("copy", x.copy(0), c);
        }
        is("the twenty-fifth", x.copy(0), FULL);
        is("STATE before FULL", x.copy(1), STATE);
        is("where", x.copyOf(23, 1), 0);
    }

    private static void copyOf() {
        SpokenBooks x = house(2);
        days(x, 3);
        x.copy(1);
        is("0", x.copyOf(0, 0), 1);
        is("1", x.copyOf(0, 1), 0);
        is("2", x.copyOf(0, 2), NONE);
        is("3", x.copyOf(0, 3), 0);
        is("4", x.copyOf(0, 4), 3);
        x.listener(1, 0);
        x.listener(1, 0);
        x.ask(1, 1);
        x.day();
        is("on the way out: 1", x.copyOf(0, 1), 1);
        is("on the way out: 2", x.copyOf(0, 2), 1);
        is("on the way out: 3", x.copyOf(0, 3), 0);
        is("on the way out: 4", x.copyOf(0, 4), 4);
        days(x, 2);
        is("with: 1", x.copyOf(0, 1), 2);
        is("with: 2", x.copyOf(0, 2), 1);
        is("with: 3", x.copyOf(0, 3), 1);
        is("with: 4", x.copyOf(0, 4), 6);
        days(x, 1);
        x.back(0);
        is("on the way back: 1", x.copyOf(0, 1), 3);
        is("on the way back: 2", x.copyOf(0, 2), 1);
        is("on the way back: 4", x.copyOf(0, 4), 7);
        days(x, 2);
        is("home: 1", x.copyOf(0, 1), 0);
        is("home: 2", x.copyOf(0, 2), NONE);
        is("home: 3", x.copyOf(0, 3), 1);
        is("home: 4", x.copyOf(0, 4), 9);
        is("what -1", x.copyOf(0, -1), BAD);
        is("what 5", x.copyOf(0, 5), BAD);
        is("copy 1", x.copyOf(1, 0), BAD);
        is("copy -1", x.copyOf(-1, 0), BAD);
    }

    private static void back() {
        SpokenBooks x = house(1);
        is("no copy", x.back(0), BAD);
        x.copy(0);
        is("copy -1", x.back(-1), BAD);
        is("in the house", x.back(0), STATE);
        x.listener(1, 0);
        x.ask(0, 0);
        x.serve();
        is("on the way out", x.back(0), STATE);
        days(x, 2);
        is("with", x.back(0), 3);
        is("on the way back", x.back(0), STATE);
        SpokenBooks y = house(1);
        tell(y, "lag 0;life 2;again 1;");
        y.copy(0);
        y.listener(1, 0);
        y.ask(0, 0);
        y.serve();
        is("with lag 0 home at once", y.back(0), 0);
        is("since", y.copyOf(0, 4), 0);
        y.day();
        y.ask(0, 0);
        y.serve();
        is("with lag 0 worn out at once", y.back(0), 5);
        is("nobody has it", y.copyOf(0, 2), NONE);
        is("since", y.copyOf(0, 4), 1);
        is("worn out", y.back(0), STATE);
    }

    private static void lose() {
        SpokenBooks x = house(1);
        is("no copy", x.lose(0), BAD);
        x.copy(0);
        x.copy(0);
        x.copy(0);
        is("in the house", x.lose(0), STATE);
        is("copy -1", x.lose(-1), BAD);
        for (int l = 0; l < 3; l++) {
            x.listener(1, 0);
            x.ask(l, 0);
        }
        x.serve();
        is("on the way out", x.lose(0), 1);
        is("lost", x.lose(0), STATE);
        is("where", x.copyOf(0, 1), 4);
        is("nobody has it", x.copyOf(0, 2), NONE);
        is("it never came", x.told(0, 7), 0);
        is("it may be sent anew", x.may(0, 0), 1);
        is("its request stays served", x.request(0, 3), 1);
        days(x, 2);
        is("with", x.lose(1), 2);
        is("since", x.copyOf(1, 4), 2);
        is("plays stay", x.copyOf(1, 3), 1);
        x.back(2);
        is("on the way back", x.lose(2), 3);
        days(x, 3);
        is("a lost one stays lost", x.copyOf(2, 1), 4);
        is("count(10)", x.count(10), 3);
        SpokenBooks y = house(1);
        tell(y, "lag 0;life 1;");
        y.copy(0);
        y.listener(1, 0);
        y.ask(0, 0);
        y.serve();
        y.back(0);
        is("worn out", y.lose(0), STATE);
    }

    private static void listener() {
        SpokenBooks x = new SpokenBooks();
        is("tongues 0", x.listener(0, 0), BAD);
        is("tongues 16", x.listener(16, 0), BAD);
        is("tongues -1", x.listener(-1, 0), BAD);
        is("likes -1", x.listener(1, -1), BAD);
        is("likes 256", x.listener(1, 256), BAD);
        for (int l = 0; l < 10; l++) {
            is("listener", x.listener(l == 0 ? 15 : 1, l == 0 ? 255 : 0), l);
        }
        is("the eleventh", x.listener(1, 0), FULL);
        is("BAD first", x.listener(0, 0), BAD);
    }

    private static void told() {
        SpokenBooks x = house(4);
        tell(x, "loan 3;days 2;lag 1;");
        for (int t = 0; t < 4; t++) {
            x.copy(t);
        }
        x.listener(3, 130);
        x.listener(1, 0);
        is("0", x.told(0, 0), 3);
        is("1", x.told(0, 1), 130);
        for (int t = 0; t < 4; t++) {
            x.ask(0, t);
        }
        is("5", x.told(0, 5), 4);
        x.serve();
        is("2 on the way out", x.told(0, 2), 3);
        is("3 on the way out", x.told(0, 3), 0);
        is("5 behind serving", x.told(0, 5), 1);
        is("6", x.told(0, 6), 0);
        is("7", x.told(0, 7), 0);
        x.day();
        is("2 with", x.told(0, 2), 3);
        is("3 with", x.told(0, 3), 3);
        is("6", x.told(0, 6), 3);
        is("7", x.told(0, 7), 7);
        days(x, 2);
        is("4 two days on", x.told(0, 4), 0);
        x.back(1);
        x.day();
        is("4 three days on", x.told(0, 4), 2);
        is("2", x.told(0, 2), 3);
        is("3", x.told(0, 3), 2);
        x.day();
        is("6", x.told(0, 6), 4);
        is("7", x.told(0, 7), 15);
        is("5", x.told(0, 5), 0);
        is("4 of another", x.told(1, 4), 0);
        x.unask(x.ask(1, 0));
        is("5 taken back", x.told(1, 5), 0);
        x.copy(0);
        x.ask(1, 0);
        days(x, 93);
        is("THE DAY", x.count(7), 98);
        x.ask(1, 1);
        x.serve();
        x.day();
        is("3 on the last day", x.told(1, 3), 2);
        is("what 8", x.told(0, 8), BAD);
        is("what -1", x.told(0, -1), BAD);
        is("listener 2", x.told(2, 0), BAD);
        is("listener -1", x.told(-1, 0), BAD);
    }

    private static void ask() {
        SpokenBooks x = house(4);
        is("no listener", x.ask(0, 0), BAD);
        for (int l = 0; l < 8; l++) {
            x.listener(2, 0);
        }
        is("no title", x.ask(0, 4), BAD);
        is("title -1", x.ask(0, -1), BAD);
        is("listener -1", x.ask(-1, 0), BAD);
        for (int r = 0; r < 30; r++) {
            is("ask, even for what may not be sent", x.ask(r % 8, r / 8), r);
        }
        is("waits already, before FULL", x.ask(0, 0), STATE);
        is("FULL", x.ask(7, 3), FULL);
        is("BAD before FULL", x.ask(8, 3), BAD);
        is("unask", x.unask(0), 1);
        is("numbers are not used again", x.ask(0, 0), FULL);
        SpokenBooks y = house(1);
        y.title(0, 0, 0);
        y.listener(1, 0);
        is("a title without sides", y.ask(0, 1), 0);
        y.unask(0);
        is("again", y.ask(0, 1), 1);
    }

    private static void unask() {
        SpokenBooks x = house(1);
        is("none", x.unask(0), BAD);
        x.copy(0);
        x.listener(1, 0);
        x.ask(0, 0);
        is("-1", x.unask(-1), BAD);
        is("1", x.unask(1), BAD);
        is("0", x.unask(0), 1);
        is("taken back already", x.unask(0), STATE);
        is("nobody waits", x.serve(), 0);
        x.ask(0, 0);
        x.serve();
        is("served", x.unask(1), STATE);
    }

    private static void request() {
        SpokenBooks x = house(3);
        x.listener(1, 0);
        x.listener(1, 0);
        days(x, 5);
        x.ask(1, 2);
        is("0", x.request(0, 0), 1);
        is("1", x.request(0, 1), 2);
        is("2", x.request(0, 2), 5);
        is("3", x.request(0, 3), 0);
        is("4", x.request(0, 4), NONE);
        x.copy(0);
        x.copy(2);
        x.day();
        is("3 served", x.request(0, 3), 1);
        is("4 served", x.request(0, 4), 1);
        is("2 served", x.request(0, 2), 5);
        x.ask(0, 1);
        x.unask(1);
        is("3 taken back", x.request(1, 3), 2);
        is("4 taken back", x.request(1, 4), NONE);
        is("what 5", x.request(0, 5), BAD);
        is("what -1", x.request(0, -1), BAD);
        is("request 2", x.request(2, 0), BAD);
        is("request -1", x.request(-1, 0), BAD);
    }

    private static void may() {
        SpokenBooks x = house(2);
        is("no listener", x.may(0, 0), BAD);
        x.listener(14, 0);
        x.listener(1, 0);
        is("no title", x.may(0, 2), BAD);
        is("title -1", x.may(0, -1), BAD);
        is("listener -1", x.may(-1, 0), BAD);
        is("another tongue", x.may(0, 0), 0);
        is("its tongue", x.may(1, 0), 1);
        tell(x, "right 0 1 2;again 3;lag 1;");
        is("the right is not yet", x.may(1, 0), 0);
        is("no right told", x.may(1, 1), 1);
        x.day();
        is("the right's first day", x.may(1, 0), 1);
        x.day();
        is("the right's last day", x.may(1, 0), 1);
        x.day();
        is("the right has ended", x.may(1, 0), 0);
        x.copy(1);
        x.ask(1, 1);
        x.serve();
        is("on the way out", x.may(1, 1), 0);
        x.day();
        is("with", x.may(1, 1), 0);
        days(x, 2);
        x.back(0);
        x.day();
        is("three days behind its coming", x.may(1, 1), 1);
        x.ask(1, 1);
        x.serve();
        x.day();
        x.back(0);
        x.day();
        is("home, one day behind", x.may(1, 1), 0);
        x.day();
        is("two days behind", x.may(1, 1), 0);
        x.day();
        is("three days behind", x.may(1, 1), 1);
        tell(x, "again 0;");
        is("never again", x.may(1, 1), 0);
        tell(x, "again 1;lag 5;");
        is("again 1", x.may(1, 1), 1);
        x.ask(1, 1);
        x.serve();
        days(x, 5);
        x.back(0);
        days(x, 4);
        is("on the way back", x.may(1, 1), 0);
        x.day();
        is("home", x.may(1, 1), 1);
    }

    private static void queue() {
        SpokenBooks x = house(3);
        for (int l = 0; l < 4; l++) {
            x.listener(l == 3 ? 2 : 1, l == 1 ? 1 : 0);
        }
        is("title 3", x.queue(3, 0), BAD);
        is("title -1", x.queue(-1, 0), BAD);
        is("place -1", x.queue(0, -1), BAD);
        is("empty", x.queue(0, 0), NONE);
        is("place MAX", x.queue(0, MAX), NONE);
        x.ask(3, 0);
        x.ask(2, 0);
        x.day();
        x.ask(1, 0);
        x.ask(0, 0);
        order(x, "+waited, then by numbers; who may not is not in it", 1, 2, 3);
        tell(x, "queue -waited;");
        order(x, "-waited", 2, 3, 1);
        tell(x, "queue +number;");
        order(x, "+number", 3, 2, 1);
        tell(x, "queue -likes,-number;");
        order(x, "-likes,-number", 1, 3, 2);
        tell(x, "queue +likes;");
        order(x, "+likes", 2, 1, 3);
        tell(x, "lag 0;days 1;queue +had;");
        x.copy(1);
        x.ask(0, 1);
        is("serve", x.serve(), 1);
        order(x, "+had", 3, 1, 2);
        tell(x, "lag 0;days 1;queue -had,+likes;");
        order(x, "-had,+likes", 2, 1, 3);
        tell(x, "days 1;queue +late,+number;");
        order(x, "+late, none", 3, 2, 1);
        tell(x, "days 1;queue +late,+waited;");
        days(x, 2);
        order(x, "+late", 3, 1, 2);
        tell(x, "days 2;queue +late,+waited;");
        order(x, "two days are not late of two", 1, 2, 3);
        tell(x, "loan 1;");
        order(x, "HAS as many as loan", 1, 2);
        x.unask(1);
        order(x, "taken back", 2);
        tell(x, "right 0 50 51;");
        order(x, "no right");
    }

    private static void order(SpokenBooks x, String why, int... requests) {
        for (int i = 0; i <= requests.length; i++) {
            is("queue(0, " + i + "), " + why, x.queue(0, i), i < requests.length ? requests[i] : NONE);
        }
    }

    private static void day() {
        SpokenBooks x = house(2);
        tell(x, "lag 3;life 1;again 1;");
        x.copy(0);
        x.listener(1, 0);
        x.listener(1, 0);
        x.ask(0, 0);
        x.ask(1, 0);
        is("one copy for two", x.day(), 1);
        is("count(7)", x.count(7), 1);
        days(x, 2);
        is("not yet", x.copyOf(0, 1), 1);
        x.day();
        is("lag days later", x.copyOf(0, 1), 2);
        is("since", x.copyOf(0, 4), 4);
        x.back(0);
        days(x, 2);
        is("not yet back", x.copyOf(0, 1), 3);
        is("worn out, nothing to send", x.day(), 0);
        is("worn out", x.copyOf(0, 1), 5);
        is("since", x.copyOf(0, 4), 7);
        x.copy(0);
        is("the next one", x.day(), 1);
        tell(x, "lag 0;");
        is("the way is shorter now", x.day(), 0);
        is("it came", x.copyOf(1, 1), 2);
        SpokenBooks y = house(2);
        tell(y, "lag 1;again 1;");
        y.copy(0);
        y.listener(1, 0);
        y.listener(1, 0);
        y.ask(0, 0);
        y.day();
        y.day();
        y.ask(1, 0);
        y.back(0);
        is("what comes home is sent the same day", y.day(), 1);
        is("to the next", y.copyOf(0, 2), 1);
        SpokenBooks z = new SpokenBooks();
        for (int i = 0; i < 99; i++) {
            is("a day", z.day(), 0);
        }
        is("THE DAY is 99", z.day(), FULL);
        is("count(7)", z.count(7), 99);
    }

    private static void serve() {
        SpokenBooks x = house(3);
        tell(x, "lag 0;loan 2;again 1;");
        for (int t = 2; t >= 0; t--) {
            x.copy(t);
        }
        x.listener(1, 0);
        for (int t = 0; t < 3; t++) {
            x.ask(0, t);
        }
        is("as many as loan", x.serve(), 2);
        is("titles by numbers", x.told(0, 7), 3);
        is("it came at once", x.copyOf(2, 1), 2);
        is("plays", x.copyOf(2, 3), 1);
        is("THE DAY stays", x.count(7), 0);
        is("nothing more", x.serve(), 0);
        x.back(2);
        is("room for one more", x.serve(), 1);
        x.listener(1, 0);
        x.copy(0);
        x.copy(0);
        x.ask(1, 0);
        is("serve", x.serve(), 1);
        is("the fewest plays, of several the least", x.request(3, 4), 3);
        x.back(3);
        x.listener(1, 0);
        x.ask(2, 0);
        x.serve();
        is("the fewest plays", x.request(4, 4), 4);
        SpokenBooks y = house(1);
        for (int l = 0; l < 3; l++) {
            y.listener(1, 0);
            y.ask(l, 0);
        }
        y.copy(0);
        y.copy(0);
        is("as long as there is a copy", y.serve(), 2);
        is("on the way out", y.copyOf(1, 1), 1);
        is("waits on", y.request(2, 3), 0);
    }

    private static void parcels() {
        SpokenBooks x = house(3);
        is("what 2", x.parcels(2), BAD);
        is("what -1", x.parcels(-1), BAD);
        tell(x, "loan 1;");
        x.copy(0);
        x.copy(1);
        x.listener(1, 1);
        is("one listener, loan 1", x.parcels(0), 1);
        is("the liked one", x.parcels(1), 1);
        tell(x, "loan 1;right 1 0 0;");
        x.title(1, 0, 1);
        x.side(3, 1);
        x.copy(3);
        x.listener(2, 1);
        is("each a tongue", x.parcels(0), 2);
        is("both liked", x.parcels(1), 2);
        tell(x, "loan 6;");
        is("loan 6", x.parcels(0), 3);
        is("liked", x.parcels(1), 2);
        x.copy(0);
        x.copy(0);
        is("none twice", x.parcels(0), 3);
        x.ask(0, 0);
        x.serve();
        is("what is on the way counts", x.parcels(0), 2);
        tell(x, "loan 1;");
        is("loan less HAS", x.parcels(0), 1);
        SpokenBooks y = house(2);
        tell(y, "loan 1;right 1 0 0;");
        y.copy(0);
        y.copy(1);
        y.title(1, 7, 1);
        y.listener(1, 1);
        y.listener(1, 1);
        is("two pairs", y.parcels(0), 2);
        is("one of them liked", y.parcels(1), 1);
        y.day();
        is("a right that ended", y.parcels(0), 1);
        SpokenBooks z = house(0);
        tell(z, "loan 1;");
        z.title(0, 0, 0);
        z.title(1, 1, 1);
        z.side(0, 5);
        z.side(1, 5);
        z.copy(0);
        z.copy(1);
        z.listener(3, 1);
        z.listener(1, 0);
        is("the most pairs come before the liked ones", z.parcels(0), 2);
        is("no liked one then", z.parcels(1), 0);
    }

    private static void program() {
        SpokenBooks x = house(0);
        int[] tongue = {0, 0, 1, 2};
        int[] minutes = {60, 60, 60, 30};
        for (int t = 0; t < 4; t++) {
            x.title(tongue[t], 0, tongue[t]);
            x.side(t, minutes[t]);
        }
        is("nobody waits", x.program(15, 40, 15, 40, 15, 0), 0);
        is("nothing is read", x.program(15, 40, 15, 40, 15, 1), 0);
        for (int l = 0; l < 4; l++) {
            x.listener(15, 0);
        }
        x.ask(0, 0);
        x.ask(0, 1);
        x.ask(1, 2);
        x.ask(0, 2);
        x.ask(0, 3);
        row(x, 15, new int[] {3, 3, 1, 7}, 5, 210, 1, 1, 1, 2);
        row(x, 15, new int[] {2, 3, 2, 7}, 5, 210, 1, 1, 2, 2);
        row(x, 15, new int[] {2, 3, 1, 7}, 4, 150, 0, 1, 1, 2);
        row(x, 15, new int[] {1, 15, 1, 15}, 3, 90, 0, 0, 1, 2);
        row(x, 15, new int[] {1, 1, 1, 15}, 3, 120, 0, 1, 2, 0);
        row(x, 15, new int[] {1, 15, 0, 15}, 2, 60, 0, 0, 1, 0);
        row(x, 7, new int[] {1, 1, 1, 1}, 2, 120, 1, 2, 0, 0);
        row(x, 3, new int[] {1, 1, 0, 1}, 1, 60, 0, 1, 0, 0);
        row(x, 3, new int[] {0, 1, 1, 1}, 1, 60, 0, 2, 0, 0);
        row(x, 8, new int[] {40, 0, 40, 4}, 1, 30, 0, 0, 0, 2);
        row(x, 9, new int[] {1, 15, 0, 0}, 1, 30, 0, 0, 0, 1);
        row(x, 15, new int[] {40, 0, 40, 0}, 0, 0, 0, 0, 0, 0);
        row(x, 0, new int[] {40, 15, 40, 15}, 0, 0, 0, 0, 0, 0);
        x.title(3, 0, 3);
        x.ask(0, 4);
        is("a title without sides costs nothing", x.program(16, 0, 7, 0, 8, 0), 1);
        is("who", x.program(16, 0, 7, 0, 8, 14), 2);
        is("who, the least", x.program(16, 0, 8, 0, 8, 14), 1);
        x.unask(5);
        is("who, taken back", x.program(16, 0, 8, 0, 8, 14), 0);
        x.side(4, 90);
        x.ask(0, 4);
        is("too long now", x.program(16, 1, 8, 1, 8, 0), 0);
        is("bits 32", x.program(32, 1, 1, 1, 1, 0), BAD);
        is("bits -1", x.program(-1, 1, 1, 1, 1, 0), BAD);
        is("hours A -1", x.program(1, -1, 1, 1, 1, 0), BAD);
        is("hours A 41", x.program(1, 41, 1, 1, 1, 0), BAD);
        is("hours B -1", x.program(1, 1, 1, -1, 1, 0), BAD);
        is("hours B 41", x.program(1, 1, 1, 41, 1, 0), BAD);
        is("tongues A 16", x.program(1, 1, 16, 1, 1, 0), BAD);
        is("tongues A -1", x.program(1, 1, -1, 1, 1, 0), BAD);
        is("tongues B 16", x.program(1, 1, 1, 1, 16, 0), BAD);
        is("tongues B -1", x.program(1, 1, 1, 1, -1, 0), BAD);
        int[] none = {-1, 2, 9, 15, MAX, MIN};
        for (int what : none) {
            is("what " + what, x.program(1, 1, 1, 1, 1, what), BAD);
        }
    }

    private static void row(SpokenBooks x, int titles, int[] voices, int requests, int minutes, int... who) {
        String call = "program(" + titles + ", " + java.util.Arrays.toString(voices) + ", ";
        is(call + "0)", x.program(titles, voices[0], voices[1], voices[2], voices[3], 0), requests);
        is(call + "1)", x.program(titles, voices[0], voices[1], voices[2], voices[3], 1), minutes);
        for (int t = 0; t < who.length; t++) {
            is(call + (10 + t) + ")", x.program(titles, voices[0], voices[1], voices[2], voices[3], 10 + t), who[t]);
        }
    }

    private static void error() {
        SpokenBooks x = house(2);
        x.side(0, 90);
        is("title 2", x.error(2, 0, 0, 1), BAD);
        is("title -1", x.error(-1, 0, 0, 1), BAD);
        is("side 2", x.error(0, 2, 0, 1), BAD);
        is("side -1", x.error(0, -1, 0, 1), BAD);
        is("minute 10", x.error(0, 0, 10, 1), BAD);
        is("minute -1", x.error(0, 0, -1, 1), BAD);
        is("ears 0", x.error(0, 0, 0, 0), BAD);
        is("ears 4", x.error(0, 0, 0, 4), BAD);
        is("count(6)", x.count(6), 0);
        for (int e = 0; e < 40; e++) {
            is("error", x.error(0, 1, 89 - e, 1), e);
        }
        is("the forty-first", x.error(0, 0, 0, 1), FULL);
        is("another title's", x.error(1, 0, 19, 1), FULL);
        is("one that is there", x.error(0, 1, 50, 2), 39);
        is("its ears", x.errorOf(39, 3), 3);
        is("BAD first", x.error(0, 0, 10, 1), BAD);
        is("found once more", x.error(0, 1, 50, 1), 39);
        is("its ears stay", x.errorOf(39, 3), 3);
        SpokenBooks y = house(2);
        y.side(0, 10);
        y.error(0, 0, 3, 1);
        is("another side", y.error(0, 1, 3, 1), 1);
        is("another title", y.error(1, 0, 3, 1), 2);
        is("another minute", y.error(0, 0, 2, 1), 3);
    }

    private static void errorOf() {
        SpokenBooks x = house(1);
        x.title(2, 0, 2);
        x.side(1, 5);
        x.side(1, 6);
        days(x, 4);
        x.error(1, 1, 5, 2);
        x.day();
        x.error(1, 1, 5, 2);
        int[] due = {1, 1, 5, 2, 4, 2};
        for (int what = 0; what < due.length; what++) {
            is("errorOf(0, " + what + ")", x.errorOf(0, what), due[what]);
        }
        x.error(1, 1, 5, 1);
        is("both ears", x.errorOf(0, 3), 3);
        is("the day stays", x.errorOf(0, 4), 4);
        is("what 6", x.errorOf(0, 6), BAD);
        is("what -1", x.errorOf(0, -1), BAD);
        is("error 1", x.errorOf(1, 0), BAD);
        is("error -1", x.errorOf(-1, 0), BAD);
    }

    private static void all() {
        SpokenBooks x = house(2);
        is("none found", x.all(0, 0), 0);
        is("none found, by", x.all(0, 1), 1);
        x.error(0, 0, 0, 1);
        x.error(0, 0, 1, 1);
        x.error(0, 0, 2, 2);
        is("none together", x.all(0, 0), 3);
        is("none together, by", x.all(0, 1), 1);
        x.error(0, 0, 3, 3);
        is("3 by 2 by 1", x.all(0, 0), 6);
        is("by", x.all(0, 1), 1);
        x.error(0, 0, 4, 3);
        is("4 by 3 by 2", x.all(0, 0), 6);
        is("by", x.all(0, 1), 1);
        x.error(0, 0, 5, 1);
        is("5 by 3 by 2", x.all(0, 0), 15);
        is("by", x.all(0, 1), 2);
        is("another title", x.all(1, 0), 0);
        is("title 2", x.all(2, 0), BAD);
        is("title -1", x.all(-1, 0), BAD);
        is("what 2", x.all(0, 2), BAD);
        is("what -1", x.all(0, -1), BAD);
    }

    private static void habit() {
        SpokenBooks x = house(0);
        is("without minutes", x.habit(0, 0), 0);
        is("without minutes, by", x.habit(0, 1), 1);
        x.title(0, 0, 0);
        is("a title without minutes, by", x.habit(0, 1), 1);
        x.side(0, 10);
        x.title(1, 0, 1);
        x.side(1, 7);
        x.title(0, 0, 0);
        x.side(2, 20);
        x.side(2, 30);
        is("no errors", x.habit(0, 0), 0);
        is("no errors, by", x.habit(0, 1), 1);
        for (int m = 0; m < 5; m++) {
            x.error(2, 1, m, 1);
        }
        x.error(0, 0, 0, 2);
        x.error(1, 0, 0, 3);
        is("6 of 60", x.habit(0, 0), 1);
        is("6 of 60, by", x.habit(0, 1), 10);
        is("1 of 7", x.habit(1, 0), 1);
        is("1 of 7, by", x.habit(1, 1), 7);
        x.error(0, 0, 1, 2);
        is("7 of 60", x.habit(0, 0), 7);
        is("7 of 60, by", x.habit(0, 1), 60);
        is("reader 4", x.habit(4, 0), BAD);
        is("reader -1", x.habit(-1, 0), BAD);
        is("what 2", x.habit(0, 2), BAD);
        is("what -1", x.habit(0, -1), BAD);
    }

    private static void led() {
        SpokenBooks x = house(2);
        tell(x, "lag 0;again 1;");
        x.copy(0);
        x.copy(1);
        x.copy(0);
        x.listener(1, 0);
        x.listener(1, 0);
        x.error(0, 0, 0, 1);
        x.error(1, 0, 0, 1);
        is("nothing yet", x.led(0, 0), 0);
        x.ask(0, 0);
        x.ask(1, 0);
        x.ask(1, 1);
        x.serve();
        is("as it is now", x.led(0, 0), 5);
        is("the other title's", x.led(1, 0), 2);
        x.back(0);
        is("behind all that was done", x.led(0, 0), 4);
        x.day();
        is("the day before", x.led(0, 0), 4);
        x.lose(2);
        is("lost", x.led(0, 1), 0);
        is("not lost the day before", x.led(0, 0), 4);
        x.day();
        x.error(0, 0, 1, 1);
        is("not known then", x.led(2, 1), NONE);
        is("known now", x.led(2, 2), 0);
        x.ask(0, 0);
        x.serve();
        is("with again", x.led(2, 2), 1);
        is("day 3", x.led(2, 3), BAD);
        is("day -1", x.led(2, -1), BAD);
        is("error 3", x.led(3, 0), BAD);
        is("error -1", x.led(-1, 0), BAD);
        tell(x, "lag 3;again 1;");
        x.back(0);
        is("on the way back", x.led(0, 2), 0);
        x.copy(0);
        x.ask(1, 0);
        x.serve();
        is("on the way out", x.led(0, 2), 0);
        days(x, 97);
        is("the last day", x.led(0, 99), 8);
        is("a day far back", x.led(0, 1), 0);
        is("the other title's", x.led(1, 50), 2);
    }

    private static void known() {
        SpokenBooks x = house(2);
        is("none", x.known(NONE, 0), 0);
        x.error(0, 0, 0, 1);
        days(x, 2);
        x.error(0, 0, 1, 1);
        x.error(1, 0, 1, 1);
        x.error(0, 0, 0, 2);
        is("day 0", x.known(0, 0), 1);
        is("day 1", x.known(0, 1), 1);
        is("day 2", x.known(0, 2), 2);
        is("day 99", x.known(0, 99), 2);
        is("the other, day 1", x.known(1, 1), 0);
        is("the other, day 2", x.known(1, 2), 1);
        is("all, day 1", x.known(NONE, 1), 1);
        is("all, day 2", x.known(NONE, 2), 3);
        is("day 100", x.known(0, 100), BAD);
        is("day -1", x.known(0, -1), BAD);
        is("all, day 100", x.known(NONE, 100), BAD);
        is("title 2", x.known(2, 0), BAD);
        is("title -1", x.known(-1, 0), BAD);
        is("title -5", x.known(-5, 0), BAD);
    }

    /** Every table filled to its end, then every call of every table's last and next row. */
    private static void fullHouse() {
        SpokenBooks x = house(12);
        tell(x, "lag 0;loan 6;queue +late,-had,+likes,-waited,+number;");
        x.reader(0);
        x.reader(0);
        for (int i = 0; i < 24; i++) {
            x.copy(i % 12);
        }
        for (int l = 0; l < 10; l++) {
            x.listener(15, 1 << l % 8);
        }
        for (int r = 0; r < 30; r++) {
            x.ask(r % 10, (r + r / 10 * 3) % 12);
        }
        for (int t = 0; t < 12; t++) {
            for (int i = 1; i < 8; i++) {
                x.side(t, 90);
            }
        }
        for (int e = 0; e < 40; e++) {
            x.error(e % 12, 7, e, 1 + e % 3);
        }
        int[] full = {6, 12, 24, 10, 30, 30, 40};
        for (int what = 0; what < full.length; what++) {
            is("full: count(" + what + ")", x.count(what), full[what]);
        }
        is("full: program", x.program(4095, 40, 15, 40, 15, 0), 18);
        is("full: parcels", x.parcels(0), 24);
        is("full: all", x.all(11, 0), 3);
        is("full: habit", x.habit(0, 0), 2);
        is("full: habit, by", x.habit(0, 1), 401);
        is("full: habit of nothing", x.habit(5, 1), 1);
        is("full: queue", x.queue(11, 0), 29);
        int out = x.serve();
        is("full: served", x.count(5), 30 - out);
        is("full: with", x.count(8), out);
        is("full: led", Integer.bitCount(x.led(39, 0)), x.titleOf(3, 5) - x.titleOf(3, 6));
        is("full: known", x.known(NONE, 0), 40);
        is("full: a day", x.day(), 0);
        is("full: titleOf", x.titleOf(11, 17), 90);
        is("full: copyOf", x.copyOf(24, 0), BAD);
        is("full: request", x.request(30, 0), BAD);
        is("full: errorOf", x.errorOf(40, 0), BAD);
        is("full: told", x.told(10, 0), BAD);
    }

    private static void sheet() {
        SpokenBooks x = new SpokenBooks();
        is("k -1", x.sheet(-1, 0, 1), BAD);
        is("k 4", x.sheet(4, 0, 1), BAD);
        is("lane -1", x.sheet(0, -1, 1), BAD);
        is("lane 3", x.sheet(0, 3, 1), BAD);
        is("n 61", x.sheet(0, 0, 61), BAD);
        is("n MAX", x.sheet(0, 0, MAX), BAD);
        is("n -1", x.sheet(0, 0, -1), -14);
        is("n MIN", x.sheet(0, 0, MIN), -14);
        is("BAD first", x.sheet(4, 0, -1), BAD);
        is("still nothing", x.count(12), NONE);
        is("0 cells", x.sheet(0, 0, 0), 1);
        is("count(12)", x.count(12), 0);
        is("60 cells", x.sheet(0, 2, 60), 1);
        is("count(12)", x.count(12), 60);
        is("sheet 3", x.sheet(3, 1, 5), 1);
        is("lay", x.lay(0, 59, 7), 1);
        is("refused", x.sheet(0, 0, -1), -14);
        is("it stays", x.count(12), 60);
        SpokenBooks y = house(0);
        y.title(0, 0, 0);
        y.sheet(0, 2, 2);
        y.lay(0, 0, 5);
        y.sheet(0, 2, 2);
        is("a new row has cells 0", y.sides(0, 0, 2, 0, 1), -20);
    }

    private static void lay() {
        SpokenBooks x = house(0);
        is("k -1", x.lay(-1, 0, 0), BAD);
        is("k 4", x.lay(4, 0, 0), BAD);
        is("nothing", x.lay(0, 0, 0), -11);
        is("nothing, before the index", x.lay(0, -1, 0), -11);
        x.sheet(0, 0, 3);
        x.sheet(1, 1, 60);
        x.sheet(2, 2, 1);
        is("index -1", x.lay(0, -1, 0), -12);
        is("index 3", x.lay(0, 3, 0), -12);
        is("index 60", x.lay(1, 60, 0), -12);
        is("index MAX", x.lay(1, MAX, 0), -12);
        is("index MIN", x.lay(1, MIN, 0), -12);
        is("byte", x.lay(0, 2, 256 + 45), 1);
        is("short", x.lay(1, 59, 65536 * 3 + 46), 1);
        is("short of 256 + 47", x.lay(1, 58, 256 + 47), 1);
        is("int", x.lay(2, 0, 65536 + 48), 1);
        for (int t = 0; t < 4; t++) {
            x.title(0, 0, 0);
        }
        is("the byte's lowest bits", x.sides(0, 0, 0, 2, 1), 1);
        is("45", x.titleOf(0, 10), 45);
        is("the short's lowest bits", x.sides(1, 1, 1, 59, 1), 1);
        is("46", x.titleOf(1, 10), 46);
        is("a short keeps 16 bits", x.sides(2, 1, 1, 58, 1), -20);
        is("an int keeps all", x.sides(2, 2, 2, 0, 1), -20);
        x.sheet(0, 0, 0);
        is("no cells", x.lay(0, 0, 1), -12);
    }

    private static void sides() {
        SpokenBooks x = house(1);
        x.title(0, 0, 0);
        is("title 2", x.sides(2, 0, 0, 0, 1), BAD);
        is("title -1", x.sides(-1, 0, 0, 0, 1), BAD);
        is("k 4", x.sides(1, 4, 0, 0, 1), BAD);
        is("k -1", x.sides(1, -1, 0, 0, 1), BAD);
        is("lane 3", x.sides(1, 0, 3, 0, 1), BAD);
        is("lane -1", x.sides(1, 0, -1, 0, 1), BAD);
        is("n 0", x.sides(1, 0, 0, 0, 0), BAD);
        is("n 9", x.sides(1, 0, 0, 0, 9), BAD);
        is("n -1", x.sides(1, 0, 0, 0, -1), BAD);
        is("it has sides, before NULL", x.sides(0, 0, 0, 0, 1), STATE);
        is("nothing", x.sides(1, 0, 0, -1, 1), -11);
        x.sheet(0, 1, 10);
        is("another lane, before the index", x.sides(1, 0, 0, -1, 1), -13);
        is("another lane", x.sides(1, 0, 2, 0, 1), -13);
        is("index -1", x.sides(1, 0, 1, -1, 1), -12);
        is("index 10", x.sides(1, 0, 1, 10, 1), -12);
        is("index MAX", x.sides(1, 0, 1, MAX, 8), -12);
        is("index MIN", x.sides(1, 0, 1, MIN, 8), -12);
        for (int i = 0; i < 10; i++) {
            x.lay(0, i, i == 5 ? 91 : i == 6 ? -1 : i == 7 ? 90 : i);
        }
        is("0 is no minutes", x.sides(1, 0, 1, 0, 2), -20);
        is("91 is no minutes", x.sides(1, 0, 1, 3, 8), -22);
        is("-1 is no minutes", x.sides(1, 0, 1, 6, 8), -20);
        is("the index is met behind good cells", x.sides(1, 0, 1, 7, 4), -12);
        is("none came", x.titleOf(1, 3), 0);
        is("three", x.sides(1, 0, 1, 7, 3), 3);
        is("the first", x.titleOf(1, 10), 90);
        is("the last", x.titleOf(1, 12), 9);
        is("it has sides", x.sides(1, 0, 1, 1, 1), STATE);
        is("BAD before STATE", x.sides(1, 0, 1, 1, 9), BAD);
        x.title(0, 0, 0);
        x.sheet(3, 0, 60);
        for (int i = 52; i < 60; i++) {
            x.lay(3, i, 1);
        }
        is("eight", x.sides(2, 3, 0, 52, 8), 8);
        is("a side behind them", x.side(2, 1), FULL);
    }

    private static void count() {
        SpokenBooks x = house(3);
        tell(x, "lag 0;life 1;loan 6;");
        x.feed(0);
        for (int t = 0; t < 3; t++) {
            x.copy(t);
            x.copy(t);
        }
        x.listener(1, 0);
        x.listener(1, 0);
        for (int t = 0; t < 3; t++) {
            x.ask(0, t);
        }
        x.serve();
        x.back(0);
        x.lose(2);
        x.ask(1, 0);
        x.ask(0, 1);
        x.unask(4);
        x.error(0, 0, 0, 1);
        x.sheet(0, 0, 9);
        int[] due = {4, 3, 6, 2, 5, 1, 1, 0, 1, 1, 1, 8, 9};
        for (int what = 0; what < due.length; what++) {
            is("count(" + what + ")", x.count(what), due[what]);
        }
        x.day();
        is("count(7)", x.count(7), 1);
        is("count(-1)", x.count(-1), BAD);
        is("count(13)", x.count(13), BAD);
        is("count(MAX)", x.count(MAX), BAD);
        is("count(MIN)", x.count(MIN), BAD);
    }
}
