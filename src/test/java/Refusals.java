import java.util.ArrayList;
import java.util.List;
import java.util.function.Consumer;
import java.util.function.Supplier;
import java.util.function.ToIntFunction;

/**
 * What is refused changes nothing that another call shows, and neither does a call that only tells. Calls of all
 * kinds are tried in houses of several kinds; those that are refused, or only tell, are made ahead of calls that
 * show all there is, whose answers must be those of a twin on which they were not made.
 */
final class Refusals extends Edges {
    /* An object is used for 512 calls: the dearest house, so many quiet calls, the dearest showing stay below. */
    private static final int AT_ONCE = 25;

    private record Call(String name, boolean tells, ToIntFunction<SpokenBooks> make) {
    }

    private static final int[] ONE = {-5, -4, -1, 0, 1, 2, 3, 4, 5, 6, 8, 10, 11, 12, 13, 15, 16, 23, 24, 29, 30, 40, 60,
        91, 200, 201, MAX, MIN};
    private static final int[] TWO = {-4, -1, 0, 1, 2, 3, 5, 8, 10, 12, 17, 24, 40, 91, 100, 256, MAX, MIN};
    private static final int[] FEW = {-1, 0, 1, 3, 4, 8, 61};

    private Refusals() {
    }

    static void ask() {
        says(TERMS, "what is refused changes nothing");
        List<Supplier<SpokenBooks>> houses = List.of(SpokenBooks::new, Refusals::ordinary, Refusals::full, Refusals::lastDay);
        List<Call> calls = calls();
        for (Supplier<SpokenBooks> house : houses) {
            List<Call> quiet = quiet(house, calls);
            for (int from = 0; from < quiet.size(); from += AT_ONCE) {
                compare(house, quiet.subList(from, Math.min(from + AT_ONCE, quiet.size())));
            }
        }
        says(TERMS, "(but THE TAPE, as told).");
        for (Supplier<SpokenBooks> house : houses) {
            faultyText(house);
        }
    }

    /** Those calls that are refused by a house, or only tell. */
    private static List<Call> quiet(Supplier<SpokenBooks> house, List<Call> calls) {
        List<Call> quiet = new ArrayList<>();
        SpokenBooks x = house.get();
        int made = 0;
        for (Call call : calls) {
            boolean silent = call.make.applyAsInt(x) < 0 || call.tells;
            made++;
            if (silent) {
                quiet.add(call);
            }
            if (!silent || made > 100) {
                x = house.get();
                made = 0;
            }
        }
        return quiet;
    }

    private static void compare(Supplier<SpokenBooks> house, List<Call> quiet) {
        for (Consumer<Shown> showing : SHOWINGS) {
            SpokenBooks x = house.get();
            for (Call call : quiet) {
                call.make.applyAsInt(x);
            }
            String names = quiet.get(0).name + " .. " + quiet.get(quiet.size() - 1).name;
            compare(names, shown(x, showing), shown(house.get(), showing));
        }
    }

    private static void compare(String names, Shown got, Shown want) {
        for (int i = 0; i < want.answers.size(); i++) {
            is(want.names.get(i) + " behind " + names, got.answers.get(i), want.answers.get(i));
        }
    }

    /** A text with a fault empties the tape and leaves its fault; nothing else changes. */
    private static void faultyText(Supplier<SpokenBooks> house) {
        String[] texts = {"$", "loan 1;queue +had;right 0 1 1;$", "lag 0;life 1;again 1;days 1;lag 0;", "loan 6;queue +late,"};
        for (String text : texts) {
            for (Consumer<Shown> showing : SHOWINGS) {
                SpokenBooks x = house.get();
                x.end(0);
                int before = x.count(11);
                is("rules() of '" + text + "' is refused", tell(x, text) < -9 ? 1 : 0, 1);
                SpokenBooks twin = house.get();
                is("end(0)", twin.end(0) < 0 ? 1 : 0, 0);
                is("the tape", x.count(11), before);
                Shown want = shown(twin, showing);
                Shown got = shown(x, showing);
                for (int i = 0; i < want.answers.size(); i++) {
                    if (!want.names.get(i).equals("fault()")) {
                        is(want.names.get(i) + " behind rules() of '" + text + "'", got.answers.get(i), want.answers.get(i));
                    }
                }
            }
        }
    }

    // ---- what shows all there is

    private static final class Shown {
        private final SpokenBooks x;
        private final List<String> names = new ArrayList<>();
        private final List<Integer> answers = new ArrayList<>();

        private Shown(SpokenBooks x) {
            this.x = x;
        }

        private void add(String name, int answer) {
            names.add(name);
            answers.add(answer);
        }
    }

    private static final List<Consumer<Shown>> SHOWINGS = List.of(Refusals::rulesAndCounts, Refusals::titles,
        Refusals::copiesAndRequests, Refusals::listeners, Refusals::errors, Refusals::plans, Refusals::history,
        Refusals::bytesAndInts, Refusals::shorts, Refusals::tape, Refusals::daysToCome, Refusals::nextOfAll);

    private static Shown shown(SpokenBooks x, Consumer<Shown> showing) {
        Shown s = new Shown(x);
        showing.accept(s);
        return s;
    }

    private static void rulesAndCounts(Shown s) {
        for (int what = 0; what < 60; what++) {
            s.add("rule(" + what + ")", s.x.rule(what));
        }
        for (int what = 0; what <= 13; what++) {
            s.add("count(" + what + ")", s.x.count(what));
        }
        s.add("fault()", s.x.fault());
    }

    private static void titles(Shown s) {
        for (int t = 0; t < 12; t++) {
            for (int what = 0; what < 18; what++) {
                s.add("titleOf(" + t + ", " + what + ")", s.x.titleOf(t, what));
            }
        }
    }

    private static void copiesAndRequests(Shown s) {
        for (int what = 0; what < 5; what++) {
            for (int c = 0; c < 24; c++) {
                s.add("copyOf(" + c + ", " + what + ")", s.x.copyOf(c, what));
            }
            for (int r = 0; r < 30; r++) {
                s.add("request(" + r + ", " + what + ")", s.x.request(r, what));
            }
        }
    }

    private static void listeners(Shown s) {
        for (int l = 0; l < 10; l++) {
            for (int what = 0; what < 8; what++) {
                s.add("told(" + l + ", " + what + ")", s.x.told(l, what));
            }
            for (int t = 0; t < 12; t++) {
                s.add("may(" + l + ", " + t + ")", s.x.may(l, t));
            }
        }
    }

    private static void errors(Shown s) {
        for (int e = 0; e < 40; e++) {
            for (int what = 0; what < 6; what++) {
                s.add("errorOf(" + e + ", " + what + ")", s.x.errorOf(e, what));
            }
        }
    }

    private static void plans(Shown s) {
        for (int t = 0; t < 12; t++) {
            for (int i = 0; i < 5; i++) {
                s.add("queue(" + t + ", " + i + ")", s.x.queue(t, i));
            }
        }
        s.add("parcels(0)", s.x.parcels(0));
        s.add("parcels(1)", s.x.parcels(1));
        int all = (1 << s.x.count(1)) - 1;
        for (int what = 0; what < 22; what++) {
            s.add("program(all, 2, 5, 1, 15, " + what + ")", s.x.program(all, 2, 5, 1, 15, what));
        }
        for (int i = 0; i < 12; i++) {
            s.add("all(" + i + ", 0)", s.x.all(i, 0));
            s.add("all(" + i + ", 1)", s.x.all(i, 1));
            s.add("habit(" + i + ", 0)", s.x.habit(i, 0));
            s.add("habit(" + i + ", 1)", s.x.habit(i, 1));
        }
    }

    private static void history(Shown s) {
        int today = s.x.count(7);
        for (int day = Math.max(today - 4, 0); day <= today; day++) {
            for (int e = 0; e < 40; e += 3) {
                s.add("led(" + e + ", " + day + ")", s.x.led(e, day));
            }
            for (int t = 0; t < 12; t++) {
                s.add("known(" + t + ", " + day + ")", s.x.known(t, day));
            }
            s.add("known(NONE, " + day + ")", s.x.known(NONE, day));
        }
    }

    private static void bytesAndInts(Shown s) {
        cells(s, 4, 0, 0, 0);
        cells(s, 5, 2, 2, 0);
    }

    private static void shorts(Shown s) {
        cells(s, 4, 1, 1, 52);
        cells(s, 5, 3, 0, 0);
    }

    /** Cells are shown as sides of a title that has none. */
    private static void cells(Shown s, int t, int k, int lane, int f) {
        s.add("sides(" + t + ", " + k + ")", s.x.sides(t, k, lane, f, 8));
        s.add("sides(" + t + ", " + k + ") of 3", s.x.sides(t, k, lane, f, 3));
        for (int i = 0; i < 8; i++) {
            s.add("titleOf(" + t + ", " + (10 + i) + ") behind sides", s.x.titleOf(t, 10 + i));
        }
    }

    private static void tape(Shown s) {
        s.add("rules()", s.x.rules());
        s.add("fault() of the tape", s.x.fault());
        for (int what = 0; what < 60; what++) {
            s.add("rule(" + what + ") of the tape", s.x.rule(what));
        }
    }

    private static void daysToCome(Shown s) {
        s.add("serve()", s.x.serve());
        for (int i = 0; i < 8; i++) {
            s.add("day()", s.x.day());
            for (int c = 0; c < 24; c++) {
                s.add("copyOf(" + c + ", 1) on day " + i, s.x.copyOf(c, 1));
            }
        }
    }

    private static void nextOfAll(Shown s) {
        s.add("reader(0)", s.x.reader(0));
        s.add("title(0, 0, 0)", s.x.title(0, 0, 0));
        s.add("side(0, 90)", s.x.side(0, 90));
        s.add("copy(0)", s.x.copy(0));
        s.add("listener(15, 0)", s.x.listener(15, 0));
        s.add("ask(0, 1)", s.x.ask(0, 1));
        s.add("ask(3, 3)", s.x.ask(3, 3));
        s.add("error(0, 0, 5, 1)", s.x.error(0, 0, 5, 1));
        s.add("feed(0)", s.x.feed(0));
        for (int c = 0; c < 24; c++) {
            s.add("back(" + c + ")", s.x.back(c));
            s.add("lose(" + c + ")", s.x.lose(c));
        }
        for (int r = 0; r < 30; r++) {
            s.add("unask(" + r + ")", s.x.unask(r));
        }
    }

    // ---- houses

    /** Copies in all places, requests of all kinds, errors of several days, sheets of all lanes, a tape half told. */
    private static SpokenBooks ordinary() {
        SpokenBooks x = readers();
        tell(x, "lag 1;loan 2;life 1;again 3;days 1;queue -had,+likes;right 3 2 50;");
        for (int t = 0; t < 6; t++) {
            x.title(t % 2, t, t % 2);
        }
        for (int t = 0; t < 4; t++) {
            x.side(t, 30 + t);
            x.side(t, 20);
            x.copy(t);
            x.copy(t);
        }
        for (int l = 0; l < 5; l++) {
            x.listener(l == 4 ? 4 : 3, 1 << l);
        }
        x.error(0, 0, 0, 1);
        x.ask(0, 0);
        x.ask(1, 0);
        x.ask(2, 1);
        x.ask(3, 1);
        days(x, 2);
        x.error(0, 0, 1, 2);
        x.error(1, 1, 3, 3);
        x.lose(0);
        x.back(1);
        x.day();
        x.back(2);
        x.ask(0, 2);
        x.ask(4, 2);
        x.ask(1, 3);
        x.unask(4);
        x.ask(2, 2);
        x.serve();
        x.sheet(0, 0, 60);
        x.sheet(1, 1, 60);
        x.sheet(2, 2, 3);
        for (int i = 0; i < 8; i++) {
            x.lay(0, i, 80 + i);
            x.lay(1, 52 + i, 70 + i);
            x.lay(2, i, 60 + i);
        }
        tell(x, "loan 1;loan");
        write(x, "loan 3;days 9;queue +late;");
        return x;
    }

    private static SpokenBooks lastDay() {
        SpokenBooks x = ordinary();
        days(x, 99);
        x.error(3, 0, 3, 2);
        return x;
    }

    private static SpokenBooks full() {
        SpokenBooks x = readers();
        x.reader(0);
        x.reader(1);
        tell(x, "lag 0;loan 6;queue +number;");
        for (int k = 0; k < 4; k++) {
            x.sheet(k, k % 3, 60);
        }
        for (int i = 0; i < 8; i++) {
            x.lay(0, i, 40 + i);
        }
        for (int t = 0; t < 12; t++) {
            x.title(t % 4, t % 8, t % 4);
            x.sides(t, 0, 0, 0, 8);
            x.copy(t);
            x.copy(t);
        }
        for (int l = 0; l < 10; l++) {
            x.listener(15, 17 * l);
        }
        for (int r = 0; r < 30; r++) {
            x.ask(r % 10, (r + r / 10) % 12);
        }
        x.serve();
        for (int e = 0; e < 40; e++) {
            x.error(e % 12, e % 8, e, 1 + e % 3);
        }
        write(x, "right 0 1 2;right 1 1 2;right 2 1 2;right 3 1 2;right 4 1 2;right 5 1 2;right 6 1 2;"
            + "right 7 1 2;right 8 1 2;right 9 1 2;right 10 1 2;right 11 1 2;loan 1;lag 1;days 1;life 1;again 1;queue +had;"
            + " ".repeat(8));
        return x;
    }

    // ---- calls

    private static List<Call> calls() {
        List<Call> calls = new ArrayList<>();
        calls.add(new Call("fault()", true, SpokenBooks::fault));
        calls.add(new Call("day()", false, SpokenBooks::day));
        calls.add(new Call("feed(-1)", false, x -> x.feed(-1)));
        ofOne(calls);
        ofTwo(calls);
        ofThree(calls);
        ofMore(calls);
        return calls;
    }

    private static void ofOne(List<Call> calls) {
        for (int a : ONE) {
            String of = "(" + a + ")";
            calls.add(new Call("end" + of, false, x -> x.end(a)));
            calls.add(new Call("rule" + of, true, x -> x.rule(a)));
            calls.add(new Call("reader" + of, false, x -> x.reader(a)));
            calls.add(new Call("copy" + of, false, x -> x.copy(a)));
            calls.add(new Call("back" + of, false, x -> x.back(a)));
            calls.add(new Call("lose" + of, false, x -> x.lose(a)));
            calls.add(new Call("unask" + of, false, x -> x.unask(a)));
            calls.add(new Call("parcels" + of, true, x -> x.parcels(a)));
            calls.add(new Call("count" + of, true, x -> x.count(a)));
        }
    }

    private static void ofTwo(List<Call> calls) {
        for (int a : TWO) {
            for (int b : TWO) {
                String of = "(" + a + ", " + b + ")";
                calls.add(new Call("side" + of, false, x -> x.side(a, b)));
                calls.add(new Call("titleOf" + of, true, x -> x.titleOf(a, b)));
                calls.add(new Call("copyOf" + of, true, x -> x.copyOf(a, b)));
                calls.add(new Call("listener" + of, false, x -> x.listener(a, b)));
                calls.add(new Call("told" + of, true, x -> x.told(a, b)));
                calls.add(new Call("ask" + of, false, x -> x.ask(a, b)));
                calls.add(new Call("request" + of, true, x -> x.request(a, b)));
                calls.add(new Call("may" + of, true, x -> x.may(a, b)));
                calls.add(new Call("queue" + of, true, x -> x.queue(a, b)));
                calls.add(new Call("errorOf" + of, true, x -> x.errorOf(a, b)));
                calls.add(new Call("all" + of, true, x -> x.all(a, b)));
                calls.add(new Call("habit" + of, true, x -> x.habit(a, b)));
                calls.add(new Call("led" + of, true, x -> x.led(a, b)));
                calls.add(new Call("known" + of, true, x -> x.known(a, b)));
            }
        }
    }

    private static void ofThree(List<Call> calls) {
        for (int a : FEW) {
            for (int b : FEW) {
                for (int c : FEW) {
                    String of = "(" + a + ", " + b + ", " + c + ")";
                    calls.add(new Call("title" + of, false, x -> x.title(a, b, c)));
                    calls.add(new Call("sheet" + of, false, x -> x.sheet(a, b, c)));
                    calls.add(new Call("lay" + of, false, x -> x.lay(a, b, c)));
                    for (int ears : new int[] {0, 1, 4}) {
                        calls.add(new Call("error" + of, false, x -> x.error(a, b, c, ears)));
                    }
                }
            }
        }
    }

    private static void ofMore(List<Call> calls) {
        int[] starts = {-1, 0, 53, 59, MAX};
        int[] numbers = {0, 1, 8, 9};
        for (int t = 3; t < 7; t++) {
            for (int k = -1; k < 5; k++) {
                for (int lane = -1; lane < 4; lane++) {
                    for (int i = 0; i < starts.length * numbers.length; i++) {
                        int itsT = t;
                        int itsK = k;
                        int itsLane = lane;
                        int f = starts[i % starts.length];
                        int n = numbers[i / starts.length];
                        calls.add(new Call("sides(" + t + ", " + k + ", " + lane + ", " + f + ", " + n + ")", false,
                            x -> x.sides(itsT, itsK, itsLane, f, n)));
                    }
                }
            }
        }
        for (int some : new int[] {-1, 0, 5, 7, 4095, 4096}) {
            for (int hours : new int[] {-1, 0, 1, 40, 41}) {
                for (int tongues : new int[] {-1, 0, 5, 15, 16}) {
                    for (int what : new int[] {-1, 0, 1, 2, 10, 14, 21, 22}) {
                        calls.add(new Call("program(" + some + ", " + hours + ", " + tongues + ", " + what + ")", true,
                            x -> x.program(some, hours, tongues, 2, 3, what)));
                    }
                }
            }
        }
    }
}
