/** Errors, what they lead to, when they were known: what the terms say of them, promises 26 to 31. */
final class EdgesOfErrors extends Edges {
    private EdgesOfErrors() {
    }

    static void ask() {
        termsOfErrors();
        termsOfFractions();
        termsOfDays();
        error();
        errorOf();
        all();
        habit();
        led();
        known();
    }

    /** A title 0 of a side of 90 minutes, with so many errors found by A alone, by B alone, by both. */
    private static SpokenBooks heard(int byA, int byB, int byBoth) {
        SpokenBooks x = readers();
        x.title(0, 0, 0);
        x.side(0, 90);
        for (int i = 0; i < byA + byB + byBoth; i++) {
            x.error(0, 0, i, i < byA ? 1 : i < byA + byB ? 2 : 3);
        }
        return x;
    }

    private static void termsOfErrors() {
        says(TERMS, "ERRORS (40): on a SIDE of a TITLE, at a MINUTE (0 to MINUTES less 1),");
        SpokenBooks x = house(1);
        x.side(0, 90);
        x.side(0, 1);
        for (int e = 0; e < 40; e++) {
            is("error " + e, x.error(0, 1, e, 1), e);
        }
        is("the forty-first", x.error(0, 1, 40, 1), FULL);
        is("count(6)", x.count(6), 40);
        SpokenBooks y = house(2);
        y.side(0, 90);
        y.side(0, 1);
        y.title(0, 0, 0);
        is("minute -1", y.error(0, 0, -1, 1), BAD);
        is("minute 0", y.error(0, 0, 0, 1), 0);
        is("minute 29 of 30", y.error(0, 0, 29, 1), 1);
        is("minute 30 of 30", y.error(0, 0, 30, 1), BAD);
        is("minute 89 of 90", y.error(0, 1, 89, 1), 2);
        is("minute 90 of 90", y.error(0, 1, 90, 1), BAD);
        is("minute 0 of 1", y.error(0, 2, 0, 1), 3);
        is("minute 1 of 1", y.error(0, 2, 1, 1), BAD);
        is("side -1", y.error(0, -1, 0, 1), BAD);
        is("side 3 of 3", y.error(0, 3, 0, 1), BAD);
        is("side 1 of 1", y.error(1, 1, 0, 1), BAD);
        is("a title without sides", y.error(2, 0, 0, 1), BAD);

        says(TERMS, "each found by ear A, by ear B, or both.");
        is("by A", heard(1, 0, 0).errorOf(0, 3), 1);
        is("by B", heard(0, 1, 0).errorOf(0, 3), 2);
        is("by both", heard(0, 0, 1).errorOf(0, 3), 3);
        is("by none", y.error(0, 0, 5, 0), BAD);
        is("by another", y.error(0, 0, 5, 4), BAD);
        is("by another", y.error(0, 0, 5, 5), BAD);
        is("by all", y.error(0, 0, 5, -1), BAD);
    }

    private static void fraction(int byA, int byB, int byBoth, int above, int below) {
        SpokenBooks x = heard(byA, byB, byBoth);
        is("all(0, 0) of " + byA + ", " + byB + ", " + byBoth, x.all(0, 0), above);
        is("all(0, 1) of " + byA + ", " + byB + ", " + byBoth, x.all(0, 1), below);
    }

    private static void termsOfFractions() {
        says(TERMS, "ALL of a TITLE: A's times B's by those found by both (a fraction;");
        fraction(0, 0, 1, 1, 1);
        fraction(1, 0, 1, 2, 1);
        fraction(0, 1, 1, 2, 1);
        fraction(1, 1, 1, 4, 1);
        fraction(1, 1, 2, 9, 2);
        fraction(2, 1, 3, 20, 3);
        fraction(4, 3, 2, 15, 1);
        fraction(2, 1, 4, 15, 2);
        fraction(0, 0, 40, 40, 1);
        fraction(39, 0, 1, 40, 1);
        fraction(20, 19, 1, 420, 1);
        fraction(17, 16, 7, 552, 7);

        says(TERMS, "as many as were found by any, if both found none of them together, by 1).");
        fraction(1, 0, 0, 1, 1);
        fraction(0, 1, 0, 1, 1);
        fraction(2, 3, 0, 5, 1);
        fraction(20, 20, 0, 40, 1);
        fraction(40, 0, 0, 40, 1);

        says(TERMS, "HABIT of a READER: ERRORS found of all its TITLES, by all their MINUTES, as a fraction.");
        SpokenBooks x = readers();
        x.reader(0);
        x.title(0, 0, 0);
        x.title(1, 0, 1);
        x.title(0, 0, 0);
        x.title(0, 0, 4);
        x.side(0, 40);
        x.side(1, 77);
        x.side(2, 20);
        x.side(2, 10);
        x.side(3, 9);
        x.error(0, 0, 0, 1);
        x.error(0, 0, 1, 2);
        x.error(2, 0, 0, 3);
        x.error(2, 1, 0, 1);
        x.error(2, 1, 0, 2);
        x.error(1, 0, 0, 1);
        x.error(3, 0, 0, 1);
        x.error(3, 0, 1, 1);
        x.error(3, 0, 2, 1);
        is("4 of 70", x.habit(0, 0), 2);
        is("4 of 70, by", x.habit(0, 1), 35);
        is("1 of 77", x.habit(1, 0), 1);
        is("1 of 77, by", x.habit(1, 1), 77);
        is("3 of 9, of the same tongue", x.habit(4, 0), 1);
        is("3 of 9, by", x.habit(4, 1), 3);
    }

    private static void termsOfDays() {
        says(TERMS, "KNOWN: each ERROR has the day when it came;");
        SpokenBooks x = house(1);
        x.error(0, 0, 0, 1);
        days(x, 5);
        x.error(0, 0, 1, 1);
        x.error(0, 0, 0, 2);
        days(x, 94);
        x.error(0, 0, 2, 1);
        is("on day 0, though found again on day 5", x.errorOf(0, 4), 0);
        is("on day 5", x.errorOf(1, 4), 5);
        is("on day 99", x.errorOf(2, 4), 99);

        says(TERMS, "LED on a day: all COPIES of its TITLE that were WITH LISTENERS on the day (behind all that was done then).");
        SpokenBooks y = house("lag 0;again 1;life 99;", 2, 1, 2);
        y.error(0, 0, 0, 1);
        y.ask(1, 1);
        y.serve();
        for (int round = 0; round < 29; round++) {
            y.ask(0, 0);
            y.serve();
            y.day();
            y.day();
            y.back(0);
            y.day();
        }
        is("THE DAY", y.count(7), 87);
        for (int day = 0; day <= 87; day++) {
            is("led on day " + day, y.led(0, day), day % 3 < 2 && day < 87 ? 1 : 0);
        }
        SpokenBooks z = house("lag 1;again 1;", 1, 4, 4);
        z.error(0, 0, 0, 1);
        for (int l = 0; l < 4; l++) {
            z.ask(l, 0);
        }
        z.serve();
        is("on the way out", z.led(0, 0), 0);
        z.day();
        is("on the way out the day before", z.led(0, 0), 0);
        is("they came", z.led(0, 1), 15);
        z.back(0);
        z.lose(1);
        is("one on the way back, one lost", z.led(0, 1), 12);
        z.day();
        is("behind all that was done on day 1", z.led(0, 1), 12);
        z.back(2);
        z.day();
        is("behind all that was done on day 2", z.led(0, 2), 8);
        is("day 1 stays", z.led(0, 1), 12);
        is("one still is", z.led(0, 3), 8);
    }

    private static void error() {
        says(26, "An ERROR, found by ears (1 A, 2 B, 3 both): its number;");
        SpokenBooks x = house(2);
        x.side(0, 30);
        is("the first", x.error(0, 0, 3, 1), 0);
        is("another side", x.error(0, 1, 3, 2), 1);
        is("another title", x.error(1, 0, 3, 3), 2);
        is("another minute", x.error(0, 0, 4, 3), 3);
        is("count(6)", x.count(6), 4);

        says(26, "one that is there (of that SIDE and MINUTE) is found by these ears, too: its number.");
        is("by A again", x.error(0, 0, 3, 1), 0);
        is("ears", x.errorOf(0, 3), 1);
        is("by B, too", x.error(0, 0, 3, 2), 0);
        is("ears", x.errorOf(0, 3), 3);
        is("by A again", x.error(0, 0, 3, 1), 0);
        is("ears stay", x.errorOf(0, 3), 3);
        is("by both", x.error(0, 1, 3, 3), 1);
        is("ears", x.errorOf(1, 3), 3);
        is("no new ones", x.count(6), 4);
        is("of its title", x.titleOf(0, 8), 3);
        for (int e = 4; e < 40; e++) {
            x.error(e % 2, 0, e % 2 == 0 ? e / 2 + 5 : e / 2 + 4, 1);
        }
        is("forty", x.count(6), 40);
        is("there when there are forty", x.error(0, 0, 4, 3), 3);
        is("there when there are forty, by B", x.error(0, 0, 7, 2), 4);
        is("ears", x.errorOf(4, 3), 3);

        says(26, "BAD; FULL.");
        is("a new one", x.error(0, 1, 0, 1), FULL);
        is("a new one of the other title", x.error(1, 0, 0, 1), FULL);
        is("count(6)", x.count(6), 40);
        int[] titles = {-1, -4, 2, 12, MAX, MIN};
        for (int t : titles) {
            is("title " + t, x.error(t, 0, 0, 1), BAD);
        }
        int[] sides = {-1, 2, 8, MAX, MIN};
        for (int side : sides) {
            is("side " + side, x.error(0, side, 0, 1), BAD);
        }
        int[] minutes = {-1, 30, 90, MAX, MIN};
        for (int minute : minutes) {
            is("minute " + minute, x.error(0, 0, minute, 1), BAD);
        }
        int[] ears = {-1, 0, 4, 5, 7, MAX, MIN};
        for (int ear : ears) {
            is("ears " + ear, x.error(0, 0, 3, ear), BAD);
        }
        is("ears stay", x.errorOf(0, 3), 3);
    }

    private static void errorOf() {
        says(27, "Of an ERROR: 0 TITLE, 1 SIDE, 2 MINUTE, 3 ears (bits), 4 the day when it came, 5 the READER.");
        SpokenBooks x = readers();
        x.title(0, 0, 0);
        x.title(3, 0, 3);
        for (int i = 0; i < 8; i++) {
            x.side(1, 90);
        }
        x.side(0, 1);
        days(x, 8);
        x.error(0, 0, 0, 3);
        x.day();
        x.error(1, 7, 89, 2);
        x.day();
        int[] first = {0, 0, 0, 3, 8, 0};
        int[] second = {1, 7, 89, 2, 9, 3};
        for (int what = 0; what < 6; what++) {
            is("errorOf(0, " + what + ")", x.errorOf(0, what), first[what]);
            is("errorOf(1, " + what + ")", x.errorOf(1, what), second[what]);
        }

        says(27, "BAD.");
        int[] whats = {-1, -4, 6, 7, MAX, MIN};
        for (int what : whats) {
            is("errorOf(0, " + what + ")", x.errorOf(0, what), BAD);
        }
        int[] errors = {-1, -4, 2, 40, MAX, MIN};
        for (int e : errors) {
            is("errorOf(" + e + ", 0)", x.errorOf(e, 0), BAD);
            is("errorOf(" + e + ", 5)", x.errorOf(e, 5), BAD);
        }
        SpokenBooks full = heard(40, 0, 0);
        is("the last error", full.errorOf(39, 2), 39);
        is("behind the last error", full.errorOf(40, 2), BAD);
    }

    private static void all() {
        says(28, "ALL of a TITLE: 0 the numerator, 1 the denominator, in lowest terms (above 0; none found: 0 by 1).");
        fraction(0, 0, 0, 0, 1);
        fraction(2, 1, 4, 15, 2);
        fraction(3, 0, 6, 9, 1);
        fraction(5, 4, 4, 18, 1);
        fraction(6, 5, 10, 24, 1);
        fraction(7, 5, 10, 51, 2);
        SpokenBooks x = house(2);
        x.error(1, 0, 0, 3);
        x.error(1, 0, 1, 1);
        is("the other title has none", x.all(0, 0), 0);
        is("the other title has none, by", x.all(0, 1), 1);
        is("its own", x.all(1, 0), 2);

        says(28, "BAD.");
        int[] bad = {-1, -4, 2, 12, MAX, MIN};
        for (int i : bad) {
            is("all(" + i + ", 0)", x.all(i, 0), BAD);
            is("all(" + i + ", 1)", x.all(i, 1), BAD);
            is("all(0, " + i + ")", x.all(0, i), BAD);
        }
    }

    private static void habit() {
        says(29, "HABIT of a READER likewise (without MINUTES 0 by 1).");
        SpokenBooks x = readers();
        is("without titles", x.habit(0, 0), 0);
        is("without titles, by", x.habit(0, 1), 1);
        x.title(0, 0, 0);
        is("without sides", x.habit(0, 0), 0);
        is("without sides, by", x.habit(0, 1), 1);
        x.side(0, 90);
        is("without errors", x.habit(0, 0), 0);
        is("without errors, by", x.habit(0, 1), 1);
        x.error(0, 0, 0, 1);
        is("1 of 90", x.habit(0, 0), 1);
        is("1 of 90, by", x.habit(0, 1), 90);
        x.error(0, 0, 1, 1);
        is("2 of 90", x.habit(0, 0), 1);
        is("2 of 90, by", x.habit(0, 1), 45);
        x.side(0, 10);
        is("2 of 100, by", x.habit(0, 1), 50);
        SpokenBooks y = readers();
        y.title(0, 0, 0);
        y.side(0, 1);
        y.error(0, 0, 0, 3);
        is("1 of 1", y.habit(0, 0), 1);
        is("1 of 1, by", y.habit(0, 1), 1);

        says(29, "BAD.");
        int[] bad = {-1, -4, 4, 6, MAX, MIN};
        for (int i : bad) {
            is("habit(" + i + ", 0)", x.habit(i, 0), BAD);
            is("habit(" + i + ", 1)", x.habit(i, 1), BAD);
            is("habit(0, " + i + ")", x.habit(0, i), BAD);
        }
        is("what 2", x.habit(0, 2), BAD);
        is("the last reader", x.habit(3, 1), 1);
        is("no reader at all", new SpokenBooks().habit(0, 0), BAD);
    }

    private static void led() {
        says(30, "LED: of an ERROR the COPIES (bits) that were WITH LISTENERS on a day (0 to THE DAY).");
        SpokenBooks x = house("lag 0;loan 6;", 12, 2, 2);
        x.error(11, 0, 0, 1);
        x.error(0, 0, 0, 1);
        x.ask(0, 11);
        x.ask(1, 11);
        x.ask(1, 0);
        is("none yet", x.led(0, 0), 0);
        x.serve();
        is("copies 11 and 23", x.led(0, 0), 1 << 11 | 1 << 23);
        is("copy 0", x.led(1, 0), 1);
        x.day();
        is("on the day before", x.led(0, 0), 1 << 11 | 1 << 23);
        is("on THE DAY", x.led(0, 1), 1 << 11 | 1 << 23);
        x.back(11);
        is("one is back", x.led(0, 1), 1 << 23);
        is("the day before stays", x.led(0, 0), 1 << 11 | 1 << 23);
        days(x, 98);
        is("day 99", x.led(0, 99), 1 << 23);
        is("day 0 stays", x.led(0, 0), 1 << 11 | 1 << 23);

        says(30, "BAD; NONE: it was not KNOWN then.");
        SpokenBooks y = house("lag 0;", 1, 1, 1);
        y.ask(0, 0);
        days(y, 3);
        y.error(0, 0, 0, 1);
        is("the day before it came", y.led(0, 2), NONE);
        is("day 0", y.led(0, 0), NONE);
        is("the day when it came", y.led(0, 3), 1);
        is("behind THE DAY", y.led(0, 4), BAD);
        is("day -1", y.led(0, -1), BAD);
        is("day MAX", y.led(0, MAX), BAD);
        is("day MIN", y.led(0, MIN), BAD);
        y.day();
        is("THE DAY now", y.led(0, 4), 1);
        is("behind THE DAY", y.led(0, 5), BAD);
        is("day 99", y.led(0, 99), BAD);
        y.error(0, 0, 0, 2);
        is("found again it was known all the same", y.led(0, 3), 1);
        int[] errors = {-1, -4, 1, 40, MAX, MIN};
        for (int e : errors) {
            is("error " + e, y.led(e, 0), BAD);
        }
        is("no error at all", new SpokenBooks().led(0, 0), BAD);
    }

    private static void known() {
        says(31, "How many ERRORS were KNOWN on a day (0 to 99) of a TITLE (NONE: of all).");
        SpokenBooks x = house(2);
        x.error(0, 0, 0, 1);
        x.error(1, 0, 0, 1);
        is("on THE DAY", x.known(0, 0), 1);
        is("of all", x.known(NONE, 0), 2);
        is("on a day to come", x.known(0, 99), 1);
        days(x, 7);
        x.error(0, 0, 1, 1);
        x.error(0, 0, 0, 2);
        is("the day before", x.known(0, 6), 1);
        is("the day when it came", x.known(0, 7), 2);
        is("of all, the day before", x.known(NONE, 6), 2);
        is("of all", x.known(NONE, 7), 3);
        is("of the other", x.known(1, 7), 1);
        days(x, 92);
        x.error(1, 0, 1, 1);
        is("day 98", x.known(NONE, 98), 3);
        is("day 99", x.known(NONE, 99), 4);
        is("day 99 of the other", x.known(1, 99), 2);
        is("none at all", new SpokenBooks().known(NONE, 0), 0);

        says(31, "BAD.");
        int[] days = {-1, -4, 100, 101, MAX, MIN};
        for (int day : days) {
            is("known(0, " + day + ")", x.known(0, day), BAD);
            is("known(NONE, " + day + ")", x.known(NONE, day), BAD);
        }
        int[] titles = {-1, -2, -3, -5, 2, 12, MAX, MIN};
        for (int t : titles) {
            is("known(" + t + ", 0)", x.known(t, 0), BAD);
        }
    }
}
