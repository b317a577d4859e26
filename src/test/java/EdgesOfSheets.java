/** Sheets and counts: what the terms say of them, promises 32 to 35. */
final class EdgesOfSheets extends Edges {
    private EdgesOfSheets() {
    }

    static void ask() {
        termsOfSheets();
        sheet();
        lay();
        sides();
        faultsOfSides();
        count();
    }

    /** A house of titles without sides. */
    private static SpokenBooks titles(int n) {
        SpokenBooks x = readers();
        for (int t = 0; t < n; t++) {
            x.title(0, 0, 0);
        }
        return x;
    }

    private static void termsOfSheets() {
        says(TERMS, "SHEETS 0 to 3 are rows of BYTES (lane 0), SHORTS (1), INTS (2)");
        SpokenBooks x = titles(12);
        int t = 0;
        for (int k = 0; k < 4; k++) {
            for (int lane = 0; lane < 3; lane++) {
                is("sheet " + k + " of lane " + lane, x.sheet(k, lane, 1), 1);
                x.lay(k, 0, 10 + t);
                is("taken as of lane " + lane, x.sides(t, k, lane, 0, 1), 1);
                is("its cell", x.titleOf(t, 10), 10 + t);
                t++;
            }
        }
        is("sheet -1", x.sheet(-1, 0, 1), BAD);
        is("sheet 4", x.sheet(4, 0, 1), BAD);
        is("lane -1", x.sheet(0, -1, 1), BAD);
        is("lane 3", x.sheet(0, 3, 1), BAD);

        says(TERMS, "with 0 to 60 CELLS, or nothing (at first).");
        SpokenBooks y = new SpokenBooks();
        is("nothing", y.count(12), NONE);
        is("nothing has no cell", y.lay(0, 0, 1), -11);
        is("0 cells", y.sheet(0, 0, 0), 1);
        is("count(12)", y.count(12), 0);
        is("0 cells are not nothing", y.lay(0, 0, 1), -12);
        is("60 cells", y.sheet(0, 0, 60), 1);
        is("count(12)", y.count(12), 60);
        is("the last", y.lay(0, 59, 1), 1);
        is("61 cells", y.sheet(0, 0, 61), BAD);
        is("-1 cells", y.sheet(0, 0, -1), -14);
        is("count(12)", y.count(12), 60);

        says(TERMS, "A FAULT is what the machine finds: 1 NULL (nothing), 2 INDEX, 3 CAST (another lane), 4 SIZE (below 0).");
        SpokenBooks z = titles(1);
        is("NULL", z.lay(3, 0, 1), -10 - 1);
        is("NULL of sides", z.sides(0, 3, 0, 0, 1), -10 - 1);
        z.sheet(3, 1, 2);
        is("INDEX", z.lay(3, 2, 1), -10 - 2);
        is("INDEX of sides", z.sides(0, 3, 1, 2, 1), -10 - 2);
        is("CAST", z.sides(0, 3, 0, 0, 1), -10 - 3);
        is("SIZE", z.sheet(3, 1, -1), -10 - 4);
    }

    private static void sheet() {
        says(32, "A SHEET is a new row of CELLS 0: 1.");
        SpokenBooks x = titles(4);
        for (int lane = 0; lane < 3; lane++) {
            is("60 cells", x.sheet(0, lane, 60), 1);
            for (int i = 0; i < 60; i++) {
                is("cell " + i + " is 0", x.sides(0, 0, lane, i, 1), -20);
                x.lay(0, i, 9);
            }
        }
        x.sheet(1, 1, 3);
        x.lay(1, 2, 8);
        is("fewer", x.sheet(0, 2, 5), 1);
        is("count(12)", x.count(12), 5);
        is("its first is 0", x.sides(0, 0, 2, 0, 1), -20);
        is("its last is 0", x.sides(0, 0, 2, 4, 1), -20);
        is("behind its last", x.sides(0, 0, 2, 5, 1), -12);
        is("more again", x.sheet(0, 2, 60), 1);
        is("all are 0", x.sides(0, 0, 2, 5, 1), -20);
        is("all are 0", x.sides(0, 0, 2, 59, 1), -20);
        is("another sheet stays", x.sides(0, 1, 1, 2, 1), 1);
        x.lay(0, 0, 7);
        is("of another lane", x.sheet(0, 0, 60), 1);
        is("of another lane: 0", x.sides(1, 0, 0, 0, 1), -20);
        is("not of the lane before", x.sides(1, 0, 2, 0, 1), -13);

        says(32, "BAD: also n above 60; -10 - 4.");
        SpokenBooks y = titles(1);
        y.sheet(0, 1, 2);
        y.lay(0, 0, 5);
        int[] sheets = {-1, -4, 4, 5, MAX, MIN};
        for (int k : sheets) {
            is("sheet " + k, y.sheet(k, 0, 1), BAD);
            is("sheet " + k + ", BAD before SIZE", y.sheet(k, 0, -1), BAD);
        }
        int[] lanes = {-1, -4, 3, 4, MAX, MIN};
        for (int lane : lanes) {
            is("lane " + lane, y.sheet(0, lane, 1), BAD);
            is("lane " + lane + ", BAD before SIZE", y.sheet(0, lane, -1), BAD);
        }
        is("61", y.sheet(0, 0, 61), BAD);
        is("MAX", y.sheet(0, 0, MAX), BAD);
        is("-1", y.sheet(0, 0, -1), -14);
        is("-4", y.sheet(0, 0, -4), -14);
        is("MIN", y.sheet(0, 0, MIN), -14);
        is("it stays: cells", y.count(12), 2);
        is("it stays: lane and cell", y.sides(0, 0, 1, 0, 1), 1);
        is("nothing stays nothing", y.sheet(2, 0, -1), -14);
        is("nothing", y.lay(2, 0, 0), -11);
    }

    /** A value laid in a cell of a lane is minutes (0: is none). */
    private static void laid(int lane, int v, int minutes) {
        SpokenBooks x = titles(1);
        x.sheet(2, lane, 1);
        is("lay(" + v + ")", x.lay(2, 0, v), 1);
        is("as minutes in lane " + lane + ": " + v, x.sides(0, 2, lane, 0, 1), minutes > 0 ? 1 : -20);
        is("minutes", x.titleOf(0, 10), minutes > 0 ? minutes : BAD);
    }

    private static void lay() {
        says(33, "CELL i of a SHEET becomes v (its lowest bits): 1.");
        SpokenBooks x = titles(3);
        x.sheet(0, 2, 60);
        is("the first", x.lay(0, 0, 11), 1);
        is("the last", x.lay(0, 59, 12), 1);
        is("the one before", x.lay(0, 58, 13), 1);
        is("the first", x.sides(0, 0, 2, 0, 1), 1);
        is("11", x.titleOf(0, 10), 11);
        is("its neighbour is 0", x.sides(1, 0, 2, 1, 1), -20);
        is("the last two", x.sides(1, 0, 2, 58, 2), 2);
        is("13", x.titleOf(1, 10), 13);
        is("12", x.titleOf(1, 11), 12);
        is("once more", x.lay(0, 0, 14), 1);
        is("the first", x.sides(2, 0, 2, 0, 1), 1);
        is("14", x.titleOf(2, 10), 14);
        is("what was taken stays", x.titleOf(0, 10), 11);
        int[] bytes = {90, 256 + 90, -256 + 90, 65536 + 90, MIN + 90, MAX - 255 + 90};
        for (int v : bytes) {
            laid(0, v, 90);
        }
        int[] noBytes = {0, 91, 127, 128, 200, 255, 256, -1, MIN, MAX, 65536};
        for (int v : noBytes) {
            laid(0, v, 0);
        }
        int[] shorts = {90, 65536 + 90, -65536 + 90, MIN + 90, MAX - 65535 + 90};
        for (int v : shorts) {
            laid(1, v, 90);
        }
        int[] noShorts = {0, 91, 256 + 90, 32768 + 90, 65535, 65536, -1, MIN, MAX};
        for (int v : noShorts) {
            laid(1, v, 0);
        }
        laid(2, 90, 90);
        laid(2, 1, 1);
        int[] noInts = {0, 91, 256 + 90, 65536 + 90, MIN + 90, -1, MIN, MAX};
        for (int v : noInts) {
            laid(2, v, 0);
        }

        says(33, "BAD: k; -10 less the FAULT: NULL, INDEX.");
        SpokenBooks y = titles(1);
        y.sheet(0, 0, 3);
        y.sheet(3, 2, 60);
        int[] sheets = {-1, -4, 4, MAX, MIN};
        for (int k : sheets) {
            is("sheet " + k, y.lay(k, 0, 1), BAD);
            is("sheet " + k + ", BAD before INDEX", y.lay(k, 60, 1), BAD);
        }
        int[] indices = {-1, -4, 60, 61, MAX, MIN};
        for (int i : indices) {
            is("nothing, cell " + i, y.lay(1, i, 1), -11);
            is("cell " + i + " of 3", y.lay(0, i, 1), -12);
            is("cell " + i + " of 60", y.lay(3, i, 1), -12);
        }
        is("nothing, cell 0", y.lay(1, 0, 1), -11);
        is("cell 3 of 3", y.lay(0, 3, 1), -12);
        is("cell 2 of 3", y.lay(0, 2, 1), 1);
        is("cell 59 of 60", y.lay(3, 59, 1), 1);
        is("no cell became anything else", y.sides(0, 0, 0, 0, 2), -20);
    }

    /** Sheet 0: shorts 1, 2, .. 10, sheet 1: bytes 0, 91, 90, 1, sheet 2: no cells of ints, sheet 3: nothing. */
    private static SpokenBooks laidOut(int titles) {
        SpokenBooks x = titles(titles);
        x.sheet(0, 1, 10);
        for (int i = 0; i < 10; i++) {
            x.lay(0, i, i + 1);
        }
        x.sheet(1, 0, 4);
        x.lay(1, 1, 91);
        x.lay(1, 2, 90);
        x.lay(1, 3, 1);
        x.sheet(2, 2, 0);
        return x;
    }

    private static void sides() {
        says(34, "n (1 to 8) SIDES come behind a TITLE's that has none: MINUTES of CELLS f + i of a SHEET taken as of a lane: how many it has.");
        for (int n = 1; n <= 8; n++) {
            SpokenBooks x = laidOut(2);
            is(n + " sides", x.sides(1, 0, 1, 2, n), n);
            is("how many", x.titleOf(1, 3), n);
            for (int i = 0; i < n; i++) {
                is("side " + i + " of " + n, x.titleOf(1, 10 + i), 3 + i);
            }
            is("the other has none", x.titleOf(0, 3), 0);
            is("one behind them", x.side(1, 90), n < 8 ? n + 1 : FULL);
        }
        SpokenBooks y = laidOut(3);
        is("the first cell", y.sides(0, 0, 1, 0, 1), 1);
        is("the last cell", y.sides(1, 0, 1, 9, 1), 1);
        is("it is 10", y.titleOf(1, 10), 10);
        is("90 and 1", y.sides(2, 1, 0, 2, 2), 2);
        is("they may have copies", y.copy(2), 0);

        says(34, "BAD: t, k, lane, n; STATE: it has SIDES;");
        SpokenBooks z = laidOut(2);
        z.side(1, 5);
        int[] bad = {-1, -4, 12, 100, MAX, MIN};
        for (int i : bad) {
            is("t " + i, z.sides(i, 0, 1, 0, 1), BAD);
            is("k " + i, z.sides(0, i, 1, 0, 1), BAD);
            is("lane " + i, z.sides(0, 0, i, 0, 1), BAD);
            is("n " + i, z.sides(0, 0, 1, 0, i), BAD);
            is("BAD before STATE, n " + i, z.sides(1, 0, 1, 0, i), BAD);
            is("BAD before STATE, k " + i, z.sides(1, i, 1, 0, 1), BAD);
            is("BAD before STATE, lane " + i, z.sides(1, 0, i, 0, 1), BAD);
        }
        is("t 2", z.sides(2, 0, 1, 0, 1), BAD);
        is("k 4", z.sides(0, 4, 1, 0, 1), BAD);
        is("lane 3", z.sides(0, 0, 3, 0, 1), BAD);
        is("n 0", z.sides(0, 0, 1, 0, 0), BAD);
        is("n 9", z.sides(0, 0, 1, 0, 9), BAD);
        is("BAD before NULL", z.sides(0, 3, 0, 0, 9), BAD);
        is("BAD before INDEX", z.sides(0, 0, 1, 5, 9), BAD);
        is("it has sides", z.sides(1, 0, 1, 0, 1), STATE);
        is("STATE before NULL", z.sides(1, 3, 0, 0, 1), STATE);
        is("STATE before CAST", z.sides(1, 0, 0, 0, 1), STATE);
        is("STATE before INDEX", z.sides(1, 0, 1, 10, 1), STATE);
        is("STATE before no minutes", z.sides(1, 1, 0, 0, 1), STATE);
        is("its sides stay", z.titleOf(1, 3), 1);
        is("the other still has none", z.titleOf(0, 3), 0);
    }

    private static void faultsOfSides() {
        says(34, "-10 less the FAULT: NULL, CAST, then CELL by CELL INDEX;");
        SpokenBooks x = laidOut(1);
        is("NULL", x.sides(0, 3, 0, 0, 1), -11);
        is("NULL before INDEX", x.sides(0, 3, 2, -1, 8), -11);
        is("CAST to bytes", x.sides(0, 0, 0, 0, 1), -13);
        is("CAST to ints", x.sides(0, 0, 2, 0, 1), -13);
        is("CAST of bytes", x.sides(0, 1, 1, 2, 1), -13);
        is("CAST before INDEX", x.sides(0, 0, 0, -1, 1), -13);
        is("CAST before no minutes", x.sides(0, 1, 2, 0, 1), -13);
        is("CAST of no cells", x.sides(0, 2, 0, 0, 1), -13);
        is("INDEX of no cells", x.sides(0, 2, 2, 0, 1), -12);
        int[] indices = {-1, -8, 10, 11, 60, MAX, MAX - 3, MAX - 7, MIN, MIN + 7};
        for (int f : indices) {
            is("INDEX " + f, x.sides(0, 0, 1, f, 8), -12);
        }
        is("INDEX of the last of 8", x.sides(0, 0, 1, 3, 8), -12);
        is("all 8 are there", laidOut(1).sides(0, 0, 1, 2, 8), 8);
        is("INDEX behind good cells", x.sides(0, 1, 0, 2, 3), -12);

        says(34, "-20 less i: they are no MINUTES; the first met: then none came.");
        is("0", x.sides(0, 1, 0, 0, 1), -20);
        is("91", x.sides(0, 1, 0, 1, 1), -20);
        is("the first of two that are none", x.sides(0, 1, 0, 0, 2), -20);
        is("no minutes before INDEX", x.sides(0, 1, 0, 1, 8), -20);
        for (int at = 0; at < 8; at++) {
            SpokenBooks y = laidOut(1);
            y.lay(0, at, at % 2 == 0 ? 0 : 91);
            is("cell " + at + " is none", y.sides(0, 0, 1, 0, 8), -20 - at);
            is("then none came", y.titleOf(0, 3), 0);
            is("then it has no copies", y.copy(0), STATE);
            y.lay(0, at, 90);
            is("all are minutes", y.sides(0, 0, 1, 0, 8), 8);
        }
        SpokenBooks z = laidOut(1);
        z.lay(0, 8, -1);
        is("no minutes, then INDEX", z.sides(0, 0, 1, 3, 8), -25);
        z.lay(0, 8, 9);
        is("INDEX alone", z.sides(0, 0, 1, 3, 8), -12);
        is("then none came", z.titleOf(0, 3), 0);
        is("a side of its own", z.side(0, 1), 1);
    }

    private static void count() {
        says(35, "How many: 0 READERS, 1 TITLES, 2 COPIES, 3 LISTENERS, 4 REQUESTS, 5 those that WAIT, 6 ERRORS, 7 THE DAY,");
        SpokenBooks x = house("lag 1;life 1;loan 6;", 3, 3, 5);
        for (int r = 0; r < 10; r++) {
            x.ask(r % 5, r / 5);
        }
        x.unask(9);
        x.error(0, 0, 0, 1);
        x.error(0, 0, 1, 1);
        x.error(0, 0, 0, 2);
        x.day();
        x.ask(0, 2);
        int[] due = {4, 3, 9, 5, 11, 4, 2, 1};
        for (int what = 0; what < due.length; what++) {
            is("count(" + what + ")", x.count(what), due[what]);
        }

        SpokenBooks first = house("", 1, 0, 1);
        first.ask(0, 0);
        is("the first waits", first.count(5), 1);
        first.unask(0);
        is("it was taken back", first.count(5), 0);

        says(35, "8 COPIES WITH LISTENERS, 9 WORN OUT, 10 LOST,");
        counts(x, "six on the way out", 0, 0, 0);
        x.day();
        counts(x, "six came", 6, 0, 0);
        x.back(0);
        x.back(3);
        counts(x, "two on the way back", 4, 0, 0);
        x.lose(1);
        counts(x, "one lost", 3, 0, 1);
        x.day();
        counts(x, "two worn out", 4, 2, 1);

        says(35, "11 bytes on THE TAPE,");
        is("none", x.count(11), 0);
        x.feed(0);
        is("eight", x.count(11), 8);
        x.end(3);
        is("three", x.count(11), 3);
        x.rules();
        is("none behind rules()", x.count(11), 0);

        says(35, "12 CELLS of SHEET 0 (NONE: nothing).");
        is("nothing", x.count(12), NONE);
        x.sheet(1, 0, 5);
        is("another sheet's", x.count(12), NONE);
        x.sheet(0, 2, 60);
        is("60", x.count(12), 60);
        x.sheet(0, 2, 0);
        is("0", x.count(12), 0);

        says(35, "BAD.");
        int[] bad = {-1, -4, 13, 14, MAX, MIN};
        for (int what : bad) {
            is("count(" + what + ")", x.count(what), BAD);
        }
    }

    private static void counts(SpokenBooks x, String why, int with, int wornOut, int lost) {
        is("WITH, " + why, x.count(8), with);
        is("WORN OUT, " + why, x.count(9), wornOut);
        is("LOST, " + why, x.count(10), lost);
    }
}
