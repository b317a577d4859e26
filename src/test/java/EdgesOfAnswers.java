/** What the terms say of all answers, and how long an object is used. */
final class EdgesOfAnswers extends Edges {
    private EdgesOfAnswers() {
    }

    static void ask() {
        constants();
        noSuch();
        firstThatFits();
        fractions();
        lastCall();
    }

    private static void constants() {
        says(TERMS, "STATE -2 (as told), FULL -3, NONE -4 (there is none),");
        is("BAD", SpokenBooks.BAD, -1);
        is("STATE", SpokenBooks.STATE, -2);
        is("FULL", SpokenBooks.FULL, -3);
        is("NONE", SpokenBooks.NONE, -4);
    }

    private static void noSuch() {
        says(TERMS, "Answers: BAD -1 (a number is not as told, there is no such TITLE, COPY, LISTENER, REQUEST, READER, SHEET),");
        SpokenBooks x = house("", 2, 1, 2);
        x.ask(0, 0);
        x.error(0, 0, 0, 1);
        int[] none = {-1, NONE, 2, MAX, MIN};
        for (int i : none) {
            is("no TITLE " + i + ": side", x.side(i, 1), BAD);
            is("no TITLE " + i + ": titleOf", x.titleOf(i, 0), BAD);
            is("no TITLE " + i + ": copy", x.copy(i), BAD);
            is("no TITLE " + i + ": ask", x.ask(0, i), BAD);
            is("no TITLE " + i + ": may", x.may(0, i), BAD);
            is("no TITLE " + i + ": queue", x.queue(i, 0), BAD);
            is("no TITLE " + i + ": error", x.error(i, 0, 0, 1), BAD);
            is("no TITLE " + i + ": all", x.all(i, 0), BAD);
            is("no TITLE " + i + ": known", x.known(i, 0), i == NONE ? 1 : BAD);
            is("no TITLE " + i + ": sides", x.sides(i, 0, 0, 0, 1), BAD);
            is("no COPY " + i + ": copyOf", x.copyOf(i, 0), BAD);
            is("no COPY " + i + ": back", x.back(i), BAD);
            is("no COPY " + i + ": lose", x.lose(i), BAD);
            is("no LISTENER " + i + ": told", x.told(i, 0), BAD);
            is("no LISTENER " + i + ": ask", x.ask(i, 0), BAD);
            is("no LISTENER " + i + ": may", x.may(i, 0), BAD);
            is("no REQUEST " + i + ": unask", x.unask(i), BAD);
            is("no REQUEST " + i + ": request", x.request(i, 0), BAD);
            is("no READER " + i + ": title", x.title(0, 0, i == 2 ? 4 : i), BAD);
            is("no READER " + i + ": habit", x.habit(i == 2 ? 4 : i, 0), BAD);
            is("no SHEET " + i + ": sheet", x.sheet(i == 2 ? 4 : i, 0, 1), BAD);
            is("no SHEET " + i + ": lay", x.lay(i == 2 ? 4 : i, 0, 1), BAD);
            is("no SHEET " + i + ": sides", x.sides(0, i == 2 ? 4 : i, 0, 0, 1), BAD);
            is("no ERROR " + i + ": errorOf", x.errorOf(i, 0), BAD);
            is("no ERROR " + i + ": led", x.led(i, 0), BAD);
        }
    }

    /** Every two refusals that fit one call: the one that comes first in the terms is answered. */
    private static void firstThatFits() {
        says(TERMS, "the first that fits;");
        SpokenBooks x = full();
        is("reader: BAD, FULL", x.reader(4), BAD);
        is("title: BAD, FULL", x.title(0, 0, 1), BAD);
        is("side: BAD, FULL", x.side(0, 91), BAD);
        is("copy: BAD, FULL", x.copy(12), BAD);
        is("copy: STATE, FULL", x.copy(11), STATE);
        is("listener: BAD, FULL", x.listener(0, 0), BAD);
        is("ask: BAD, FULL", x.ask(10, 0), BAD);
        is("ask: BAD, FULL", x.ask(0, 12), BAD);
        is("ask: STATE, FULL", x.ask(0, 0), STATE);
        is("error: BAD, FULL", x.error(0, 0, 90, 1), BAD);
        is("error: BAD, there already", x.error(0, 0, 0, 4), BAD);
        is("queue: BAD, NONE", x.queue(11, -1), BAD);
        is("end: BAD", x.end(201), BAD);
        is("sheet: BAD, SIZE", x.sheet(0, 3, -1), BAD);
        is("lay: BAD, NULL", x.lay(4, 0, 0), BAD);
        is("lay: NULL, INDEX", x.lay(3, 60, 0), -11);
        is("sides: BAD, STATE", x.sides(0, 0, 0, 0, 9), BAD);
        is("sides: BAD, NULL", x.sides(11, 3, 3, 0, 1), BAD);
        is("sides: STATE, NULL", x.sides(0, 3, 0, 0, 1), STATE);
        is("sides: STATE, CAST", x.sides(0, 0, 0, 0, 1), STATE);
        is("sides: NULL, INDEX", x.sides(11, 3, 0, 60, 1), -11);
        is("sides: CAST, INDEX", x.sides(11, 0, 0, 60, 1), -13);
        is("sides: INDEX, no minutes", x.sides(11, 0, 2, 59, 2), -20);
        x.day();
        int late = x.error(0, 0, 0, 2);
        is("led: BAD, NONE", x.led(late, 2), BAD);
        is("known: BAD", x.known(NONE, 100), BAD);
        SpokenBooks y = house(1);
        y.day();
        y.error(0, 0, 0, 1);
        is("led: BAD before NONE", y.led(0, -1), BAD);
        is("led: NONE", y.led(0, 0), NONE);
        is("rule: BAD, no NONE behind the last TITLE", y.rule(32), BAD);
        is("rule: BAD, no NONE behind the last TITLE", y.rule(52), BAD);
    }

    /** Every table full; title 11 without sides; sheet 0 of ints 0, sheet 3 of nothing. */
    private static SpokenBooks full() {
        SpokenBooks x = readers();
        x.reader(0);
        x.reader(0);
        for (int t = 0; t < 12; t++) {
            x.title(0, 0, 0);
        }
        for (int i = 0; i < 8; i++) {
            x.side(0, 90);
        }
        for (int c = 0; c < 24; c++) {
            x.copy(0);
        }
        for (int l = 0; l < 10; l++) {
            x.listener(8, 0);
        }
        for (int r = 0; r < 30; r++) {
            x.ask(r % 10, r / 10);
        }
        for (int e = 0; e < 40; e++) {
            x.error(0, 0, e, 1);
        }
        for (int i = 0; i < 25; i++) {
            x.feed(0);
        }
        x.sheet(0, 2, 60);
        is("all tables are full", x.reader(0) + x.title(0, 0, 0) + x.side(0, 1) + x.copy(0) + x.listener(1, 0)
            + x.ask(0, 11) + x.error(0, 0, 40, 1) + x.feed(0), 8 * FULL);
        return x;
    }

    private static void fractions() {
        says(TERMS, "Divided down is to the next whole number below (or that itself).");
        SpokenBooks x = house(1);
        x.error(0, 0, 0, 3);
        x.error(0, 0, 1, 3);
        x.error(0, 0, 2, 1);
        x.error(0, 0, 3, 2);
        is("9 by 2 is a fraction, not divided down", x.all(0, 0), 9);
        is("9 by 2 is a fraction, not divided down, by", x.all(0, 1), 2);
    }

    private static void lastCall() {
        says(INTRODUCTION, "An object is used for at most 512 calls after it has been made; what later calls answer is free.");
        SpokenBooks x = new SpokenBooks();
        x.reader(0);
        x.title(0, 0, 0);
        x.side(0, 90);
        x.listener(1, 0);
        for (int call = 5; call <= 99 + 4; call++) {
            x.day();
        }
        for (int call = 104; call < 511; call++) {
            x.titleOf(0, 4);
        }
        is("the 511th", x.count(7), 99);
        is("the 512th", x.ask(0, 0), 0);
    }
}
