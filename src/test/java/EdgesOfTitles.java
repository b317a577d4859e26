/** Readers, titles, sides, copies: what the terms say of them, promises 1 and 7 to 14. */
final class EdgesOfTitles extends Edges {
    private EdgesOfTitles() {
    }

    static void ask() {
        aNewObject();
        termsOfTitles();
        termsOfCopies();
        reader();
        title();
        side();
        titleOf();
        copy();
        copyOf();
        back();
        lose();
    }

    private static void aNewObject() {
        says(1, "Nothing;");
        SpokenBooks x = new SpokenBooks();
        for (int what = 0; what < 12; what++) {
            is("count(" + what + ")", x.count(what), 0);
        }
        is("no reader", x.habit(0, 0), BAD);
        is("no title", x.titleOf(0, 0), BAD);
        is("no copy", x.copyOf(0, 0), BAD);
        is("no listener", x.told(0, 0), BAD);
        is("no request", x.request(0, 0), BAD);
        is("no error", x.errorOf(0, 0), BAD);
        is("no error known", x.known(NONE, 99), 0);
        is("no pairs", x.parcels(0), 0);
        is("nothing to read", x.program(0, 40, 15, 40, 15, 0), 0);
        is("nothing to serve", x.serve(), 0);
        is("no fault", x.fault(), 0);
        is("no lines", x.rules(), 0);
        SpokenBooks y = new SpokenBooks();
        is("the first of this one", y.reader(0), 0);
        is("is none of the other", x.count(0), 0);

        says(1, "THE DAY 0;");
        is("count(7)", new SpokenBooks().count(7), 0);

        says(1, "SHEETS of nothing.");
        SpokenBooks z = readers();
        z.title(0, 0, 0);
        is("count(12)", z.count(12), NONE);
        for (int k = 0; k < 4; k++) {
            is("lay(" + k + ", 0, 0)", z.lay(k, 0, 0), -11);
            is("sides of sheet " + k, z.sides(0, k, 0, 0, 1), -11);
        }
    }

    private static void termsOfTitles() {
        says(TERMS, "READERS (6):");
        SpokenBooks x = new SpokenBooks();
        for (int r = 0; r < 6; r++) {
            is("reader " + r, x.reader(3 - r % 4), r);
        }
        is("the seventh", x.reader(0), FULL);
        is("count(0)", x.count(0), 6);

        says(TERMS, "a TONGUE (0 to 3).");
        SpokenBooks y = new SpokenBooks();
        is("-1", y.reader(-1), BAD);
        is("0", y.reader(0), 0);
        is("3", y.reader(3), 1);
        is("4", y.reader(4), BAD);
        is("a title of -1", y.title(-1, 0, 0), BAD);
        is("a title of 0", y.title(0, 0, 0), 0);
        is("a title of 3", y.title(3, 0, 1), 1);
        is("a title of 4", y.title(4, 0, 1), BAD);
        is("0 stays", y.titleOf(0, 0), 0);
        is("3 stays", y.titleOf(1, 0), 3);

        says(TERMS, "TITLES (12) are numbered as they come:");
        SpokenBooks z = readers();
        for (int t = 0; t < 12; t++) {
            is("title " + t, z.title(t % 4, t % 8, t % 4), t);
        }
        is("the thirteenth", z.title(0, 0, 0), FULL);
        is("count(1)", z.count(1), 12);
        is("the last's tongue", z.titleOf(11, 0), 3);

        says(TERMS, "a TONGUE, a KIN (0 to 7),");
        SpokenBooks kins = readers();
        is("kin -1", kins.title(0, -1, 0), BAD);
        is("kin 0", kins.title(0, 0, 0), 0);
        is("kin 7", kins.title(0, 7, 0), 1);
        is("kin 8", kins.title(0, 8, 0), BAD);
        is("0 stays", kins.titleOf(0, 1), 0);
        is("7 stays", kins.titleOf(1, 1), 7);

        says(TERMS, "1 to 8 SIDES,");
        SpokenBooks s = readers();
        s.title(0, 0, 0);
        is("without sides it has no copies", s.copy(0), STATE);
        is("the first", s.side(0, 1), 1);
        is("with one it may have", s.copy(0), 0);
        for (int i = 2; i <= 8; i++) {
            is("side", s.side(0, 1), i);
        }
        is("the ninth", s.side(0, 1), FULL);
        is("titleOf(0, 3)", s.titleOf(0, 3), 8);

        says(TERMS, "each of so many MINUTES (1 to 90),");
        SpokenBooks m = readers();
        m.title(0, 0, 0);
        is("0", m.side(0, 0), BAD);
        is("1", m.side(0, 1), 1);
        is("90", m.side(0, 90), 2);
        is("91", m.side(0, 91), BAD);
        is("-1", m.side(0, -1), BAD);
        is("1 stays", m.titleOf(0, 10), 1);
        is("90 stays", m.titleOf(0, 11), 90);

        says(TERMS, "a READER of that TONGUE.");
        SpokenBooks r = readers();
        for (int tongue = 0; tongue < 4; tongue++) {
            for (int reader = 0; reader < 4; reader++) {
                int before = r.count(1);
                is("tongue " + tongue + ", reader " + reader, r.title(tongue, 0, reader),
                    tongue == reader ? before : BAD);
            }
        }
    }

    private static void termsOfCopies() {
        says(TERMS, "COPIES (24) are numbered as they come: of a TITLE;");
        SpokenBooks x = house(12);
        for (int c = 0; c < 24; c++) {
            is("copy " + c, x.copy(11 - c % 12), c);
        }
        is("the twenty-fifth", x.copy(0), FULL);
        is("count(2)", x.count(2), 24);
        is("of the first", x.copyOf(0, 0), 11);
        is("of the last", x.copyOf(23, 0), 0);

        says(TERMS, "WHERE: 0 IN THE HOUSE, 1 on the way out, 2 WITH a LISTENER, 3 on the way back, 4 LOST, 5 WORN OUT.");
        SpokenBooks y = house("lag 1;life 1;", 1, 2, 2);
        is("IN THE HOUSE", y.copyOf(0, 1), 0);
        y.ask(0, 0);
        y.ask(1, 0);
        y.serve();
        is("on the way out", y.copyOf(0, 1), 1);
        y.day();
        is("WITH a LISTENER", y.copyOf(0, 1), 2);
        y.back(0);
        is("on the way back", y.copyOf(0, 1), 3);
        y.lose(1);
        is("LOST", y.copyOf(1, 1), 4);
        y.day();
        is("WORN OUT", y.copyOf(0, 1), 5);

        says(TERMS, "PLAYS: how often it came to a LISTENER.");
        SpokenBooks z = house("lag 1;again 1;", 1, 1, 2);
        z.ask(0, 0);
        z.serve();
        is("on the way out it has not come", z.copyOf(0, 3), 0);
        z.day();
        is("it came", z.copyOf(0, 3), 1);
        days(z, 5);
        is("kept for days it came once", z.copyOf(0, 3), 1);
        z.back(0);
        is("on the way back", z.copyOf(0, 3), 1);
        z.day();
        is("home", z.copyOf(0, 3), 1);
        tell(z, "lag 0;again 1;");
        z.ask(0, 0);
        z.serve();
        is("at once to the same", z.copyOf(0, 3), 2);
        z.back(0);
        z.ask(1, 0);
        z.serve();
        is("at once to another", z.copyOf(0, 3), 3);
        z.lose(0);
        is("lost", z.copyOf(0, 3), 3);
        SpokenBooks w = house("lag 1;", 1, 1, 1);
        w.ask(0, 0);
        w.serve();
        w.lose(0);
        days(w, 3);
        is("lost on the way it never came", w.copyOf(0, 3), 0);
    }

    private static void reader() {
        says(7, "A READER: its number.");
        SpokenBooks x = new SpokenBooks();
        is("the first", x.reader(2), 0);
        is("the second", x.reader(2), 1);
        is("a title of the first", x.title(2, 0, 0), 0);
        is("a title of the second", x.title(2, 0, 1), 1);
        is("no third", x.title(2, 0, 2), BAD);

        says(7, "BAD; FULL.");
        int[] bad = {-1, -4, 4, 5, 15, MAX, MIN};
        for (int tongue : bad) {
            is("reader(" + tongue + ")", x.reader(tongue), BAD);
        }
        is("count(0)", x.count(0), 2);
        for (int r = 2; r < 6; r++) {
            is("reader", x.reader(0), r);
        }
        is("the seventh", x.reader(0), FULL);
        is("once more", x.reader(3), FULL);
        is("BAD before FULL", x.reader(4), BAD);
        is("BAD before FULL", x.reader(-1), BAD);
        is("count(0)", x.count(0), 6);
    }

    private static void title() {
        says(8, "A TITLE without SIDES: its number.");
        SpokenBooks x = readers();
        is("the first", x.title(1, 6, 1), 0);
        is("the second", x.title(3, 5, 3), 1);
        int[] due = {3, 5, 3, 0, 0, 0, 0, 0, 0};
        for (int what = 0; what < due.length; what++) {
            is("titleOf(1, " + what + ")", x.titleOf(1, what), due[what]);
        }
        is("no side 0", x.titleOf(1, 10), BAD);

        says(8, "BAD: also the READER is of another TONGUE; FULL.");
        is("another tongue", x.title(1, 0, 0), BAD);
        is("another tongue", x.title(0, 0, 1), BAD);
        is("tongue -1", x.title(-1, 0, 0), BAD);
        is("tongue 4", x.title(4, 0, 0), BAD);
        is("kin -1", x.title(0, -1, 0), BAD);
        is("kin 8", x.title(0, 8, 0), BAD);
        is("reader -1", x.title(0, 0, -1), BAD);
        is("reader 4", x.title(0, 0, 4), BAD);
        is("reader NONE", x.title(0, 0, NONE), BAD);
        is("MAX", x.title(MAX, MAX, MAX), BAD);
        is("MIN", x.title(MIN, MIN, MIN), BAD);
        is("no reader at all", new SpokenBooks().title(0, 0, 0), BAD);
        is("count(1)", x.count(1), 2);
        for (int t = 2; t < 12; t++) {
            is("title", x.title(0, 0, 0), t);
        }
        is("the thirteenth", x.title(0, 0, 0), FULL);
        is("BAD before FULL: another tongue", x.title(0, 0, 1), BAD);
        is("BAD before FULL: kin", x.title(0, 8, 0), BAD);
        is("BAD before FULL: reader", x.title(0, 0, 4), BAD);
        is("count(1)", x.count(1), 12);
    }

    private static void side() {
        says(9, "A SIDE behind a TITLE's: how many it has.");
        SpokenBooks x = readers();
        x.title(0, 0, 0);
        x.title(0, 0, 0);
        is("the first", x.side(0, 10), 1);
        is("the second", x.side(0, 20), 2);
        is("the other's first", x.side(1, 30), 1);
        is("the third", x.side(0, 40), 3);
        is("first", x.titleOf(0, 10), 10);
        is("second", x.titleOf(0, 11), 20);
        is("third", x.titleOf(0, 12), 40);
        is("the other's", x.titleOf(1, 10), 30);

        says(9, "BAD; FULL: 8.");
        is("title -1", x.side(-1, 10), BAD);
        is("title 2", x.side(2, 10), BAD);
        is("title MAX", x.side(MAX, 10), BAD);
        is("title MIN", x.side(MIN, 10), BAD);
        is("minutes 0", x.side(0, 0), BAD);
        is("minutes 91", x.side(0, 91), BAD);
        is("minutes MIN", x.side(0, MIN), BAD);
        is("minutes MAX", x.side(0, MAX), BAD);
        is("how many", x.titleOf(0, 3), 3);
        for (int i = 4; i <= 8; i++) {
            is("side", x.side(0, i), i);
        }
        is("the ninth", x.side(0, 1), FULL);
        is("BAD before FULL", x.side(0, 0), BAD);
        is("BAD before FULL", x.side(0, 91), BAD);
        is("how many", x.titleOf(0, 3), 8);
        is("the sum stays", x.titleOf(0, 4), 100);
        is("the other is not full", x.side(1, 1), 2);
    }

    private static void titleOf() {
        says(10, "Of a TITLE: 0 TONGUE, 1 KIN, 2 READER, 3 SIDES, 4 MINUTES of all,");
        SpokenBooks x = readers();
        x.title(0, 0, 0);
        x.title(3, 7, 3);
        for (int i = 0; i < 8; i++) {
            x.side(1, 90);
        }
        int[] due = {3, 7, 3, 8, 720};
        for (int what = 0; what < due.length; what++) {
            is("titleOf(1, " + what + ")", x.titleOf(1, what), due[what]);
        }
        is("SIDES, none", x.titleOf(0, 3), 0);
        is("MINUTES, none", x.titleOf(0, 4), 0);

        says(10, "5 COPIES, 6 of these IN THE HOUSE,");
        SpokenBooks y = house("lag 1;life 1;loan 6;", 2, 6, 6);
        is("COPIES", y.titleOf(0, 5), 6);
        is("of these IN THE HOUSE", y.titleOf(0, 6), 6);
        for (int l = 0; l < 5; l++) {
            y.ask(l, 0);
        }
        y.serve();
        is("five on the way out", y.titleOf(0, 6), 1);
        y.day();
        is("five WITH listeners", y.titleOf(0, 6), 1);
        y.back(0);
        is("one on the way back", y.titleOf(0, 6), 1);
        y.lose(2);
        is("one LOST", y.titleOf(0, 6), 1);
        y.day();
        is("one WORN OUT", y.titleOf(0, 6), 1);
        is("COPIES, wherever they are", y.titleOf(0, 5), 6);
        is("COPIES of the other", y.titleOf(1, 5), 6);
        is("the other's IN THE HOUSE", y.titleOf(1, 6), 6);

        says(10, "7 REQUESTS that WAIT, 8 ERRORS;");
        y.ask(5, 1);
        y.ask(4, 1);
        y.ask(3, 1);
        is("three", y.titleOf(1, 7), 3);
        y.unask(5);
        is("one taken back", y.titleOf(1, 7), 2);
        y.serve();
        is("served", y.titleOf(1, 7), 0);
        is("no errors", y.titleOf(0, 8), 0);
        y.error(0, 0, 0, 1);
        y.error(0, 0, 29, 2);
        y.error(0, 0, 0, 2);
        y.error(1, 0, 0, 2);
        is("two errors", y.titleOf(0, 8), 2);
        is("the other's", y.titleOf(1, 8), 1);

        says(10, "10 and i: MINUTES of SIDE i.");
        SpokenBooks z = readers();
        z.title(0, 0, 0);
        for (int i = 0; i < 8; i++) {
            is("side " + i + " is not yet", z.titleOf(0, 10 + i), BAD);
            z.side(0, 11 * (i + 1));
            is("side " + i, z.titleOf(0, 10 + i), 11 * (i + 1));
        }

        says(10, "BAD.");
        int[] bad = {-1, -4, 9, 18, 19, 20, MAX, MIN, MIN + 9, MIN + 10};
        for (int what : bad) {
            is("titleOf(0, " + what + ")", z.titleOf(0, what), BAD);
        }
        int[] titles = {-1, -4, 1, 12, MAX, MIN};
        for (int t : titles) {
            is("titleOf(" + t + ", 0)", z.titleOf(t, 0), BAD);
            is("titleOf(" + t + ", 10)", z.titleOf(t, 10), BAD);
        }
        SpokenBooks full = house(12);
        is("the last title", full.titleOf(11, 10), 30);
        is("behind the last title", full.titleOf(12, 10), BAD);
    }

    private static void copy() {
        says(11, "A COPY, IN THE HOUSE: its number.");
        SpokenBooks x = house(2);
        days(x, 7);
        is("the first", x.copy(1), 0);
        is("the second", x.copy(1), 1);
        int[] due = {1, 0, NONE, 0, 7};
        for (int what = 0; what < due.length; what++) {
            is("copyOf(1, " + what + ")", x.copyOf(1, what), due[what]);
        }

        says(11, "BAD; STATE: the TITLE has no SIDES; FULL.");
        x.title(0, 0, 0);
        int[] bad = {-1, -4, 3, 12, MAX, MIN};
        for (int t : bad) {
            is("copy(" + t + ")", x.copy(t), BAD);
        }
        is("no sides", x.copy(2), STATE);
        is("count(2)", x.count(2), 2);
        for (int c = 2; c < 24; c++) {
            is("copy", x.copy(0), c);
        }
        is("the twenty-fifth", x.copy(0), FULL);
        is("STATE before FULL", x.copy(2), STATE);
        is("BAD before FULL", x.copy(3), BAD);
        is("count(2)", x.count(2), 24);
        is("one side is enough", x.side(2, 1), 1);
        is("FULL then", x.copy(2), FULL);
        SpokenBooks y = house("lag 0;life 1;", 1, 24, 1);
        y.ask(0, 0);
        y.serve();
        y.back(0);
        is("a worn out one makes no room", y.copy(0), FULL);
    }

    private static void copyOf() {
        says(12, "Of a COPY: 0 TITLE, 1 WHERE,");
        SpokenBooks x = house("lag 2;", 2, 1, 2);
        is("TITLE of copy 0", x.copyOf(0, 0), 0);
        is("TITLE of copy 1", x.copyOf(1, 0), 1);
        is("WHERE", x.copyOf(1, 1), 0);

        says(12, "2 the LISTENER (NONE: WHERE 0, 4, 5),");
        is("in the house", x.copyOf(1, 2), NONE);
        SpokenBooks y = house("lag 1;life 1;", 1, 2, 3);
        y.ask(1, 0);
        y.ask(2, 0);
        y.serve();
        is("on the way out", y.copyOf(1, 2), 2);
        y.day();
        is("with", y.copyOf(1, 2), 2);
        y.back(1);
        is("on the way back", y.copyOf(1, 2), 2);
        y.day();
        is("worn out", y.copyOf(1, 2), NONE);
        is("the other's listener", y.copyOf(0, 2), 1);
        y.lose(0);
        is("lost", y.copyOf(0, 2), NONE);

        says(12, "3 PLAYS, 4 the day since which it is WHERE.");
        x.ask(1, 1);
        x.day();
        is("PLAYS", x.copyOf(1, 3), 0);
        is("on the way out since day 1", x.copyOf(1, 4), 1);
        days(x, 2);
        is("PLAYS", x.copyOf(1, 3), 1);
        is("with since day 3", x.copyOf(1, 4), 3);
        is("in the house since day 0", x.copyOf(0, 4), 0);
        x.day();
        is("it stays", x.copyOf(1, 4), 3);
        x.back(1);
        is("on the way back since day 4", x.copyOf(1, 4), 4);
        x.day();
        is("it stays", x.copyOf(1, 4), 4);
        x.day();
        is("home since day 6", x.copyOf(1, 4), 6);
        x.ask(0, 1);
        x.serve();
        is("on the way out since day 6", x.copyOf(1, 4), 6);
        x.day();
        x.lose(1);
        is("lost since day 7", x.copyOf(1, 4), 7);
        x.day();
        is("it stays", x.copyOf(1, 4), 7);
        is("worn out since day 2", y.copyOf(1, 4), 2);

        says(12, "BAD.");
        int[] whats = {-1, -4, 5, 6, 10, MAX, MIN};
        for (int what : whats) {
            is("copyOf(0, " + what + ")", x.copyOf(0, what), BAD);
        }
        int[] copies = {-1, -4, 2, 24, MAX, MIN};
        for (int c : copies) {
            is("copyOf(" + c + ", 0)", x.copyOf(c, 0), BAD);
        }
        SpokenBooks full = house("", 1, 24, 0);
        is("the last copy", full.copyOf(23, 0), 0);
        is("behind the last copy", full.copyOf(24, 0), BAD);
    }

    private static void back() {
        says(13, "A COPY that is WITH a LISTENER goes on the way back");
        SpokenBooks x = house("lag 1;", 1, 3, 3);
        for (int l = 0; l < 3; l++) {
            x.ask(l, 0);
        }
        days(x, 2);
        is("back(0)", x.back(0), 3);
        is("where", x.copyOf(0, 1), 3);
        is("the others stay", x.count(8), 2);

        says(13, "(with lag 0 it is IN THE HOUSE, or WORN OUT, at once): WHERE it is then.");
        tell(x, "lag 0;");
        is("home at once", x.back(1), 0);
        is("where", x.copyOf(1, 1), 0);
        is("the one on the way waits for the day", x.copyOf(0, 1), 3);
        tell(x, "lag 0;life 1;");
        is("worn out at once", x.back(2), 5);
        is("where", x.copyOf(2, 1), 5);
        SpokenBooks y = house("lag 0;life 2;", 1, 1, 2);
        y.ask(0, 0);
        y.serve();
        is("one play of two", y.back(0), 0);
        y.ask(1, 0);
        y.serve();
        is("two plays of two", y.back(0), 5);
        SpokenBooks z = house("lag 1;life 1;", 1, 1, 1);
        z.ask(0, 0);
        days(z, 2);
        is("with lag it is on the way first", z.back(0), 3);

        says(13, "BAD; STATE: it is not.");
        SpokenBooks w = house("lag 1;life 1;", 1, 2, 2);
        int[] bad = {-1, -4, 2, 24, MAX, MIN};
        for (int c : bad) {
            is("back(" + c + ")", w.back(c), BAD);
        }
        is("in the house", w.back(0), STATE);
        w.ask(0, 0);
        w.ask(1, 0);
        w.serve();
        is("on the way out", w.back(0), STATE);
        w.day();
        w.back(0);
        is("on the way back", w.back(0), STATE);
        w.lose(1);
        is("lost", w.back(1), STATE);
        w.day();
        is("worn out", w.back(0), STATE);
        is("no copy at all", new SpokenBooks().back(0), BAD);
    }

    private static void lose() {
        says(14, "A COPY (on the way, or WITH a LISTENER) is LOST: where it was (1 to 3).");
        SpokenBooks x = house("lag 1;", 1, 3, 3);
        for (int l = 0; l < 3; l++) {
            x.ask(l, 0);
        }
        x.serve();
        is("on the way out", x.lose(0), 1);
        x.day();
        is("with", x.lose(1), 2);
        x.back(2);
        is("on the way back", x.lose(2), 3);
        for (int c = 0; c < 3; c++) {
            is("where", x.copyOf(c, 1), 4);
        }
        days(x, 3);
        is("lost ones stay lost", x.count(10), 3);
        is("its listener has none", x.told(1, 2), 0);
        is("its request stays served", x.request(0, 3), 1);

        says(14, "BAD; STATE: it is IN THE HOUSE, LOST, WORN OUT.");
        SpokenBooks y = house("lag 0;life 1;", 1, 3, 2);
        int[] bad = {-1, -4, 3, 24, MAX, MIN};
        for (int c : bad) {
            is("lose(" + c + ")", y.lose(c), BAD);
        }
        is("in the house", y.lose(0), STATE);
        y.ask(0, 0);
        y.ask(1, 0);
        y.serve();
        y.back(0);
        is("worn out", y.lose(0), STATE);
        y.lose(1);
        is("lost", y.lose(1), STATE);
        is("since when it was", y.count(10), 1);
        is("worn out stays", y.count(9), 1);
        is("no copy at all", new SpokenBooks().lose(0), BAD);
    }
}
