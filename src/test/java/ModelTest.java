import java.util.ArrayList;
import java.util.Arrays;
import java.util.Comparator;
import java.util.HashMap;
import java.util.List;
import java.util.Map;
import java.util.Random;

/**
 * Random runs of calls on SpokenBooks and on a plain model of the document, written apart from it with lists,
 * sorting and full enumeration: every answer must be the same, and no call may throw.
 */
public final class ModelTest {
    private static final int RUNS = 3000, CALLS = 512;
    private static final String[] NAMES = {
        "feed", "end", "rules", "fault", "rule", "reader", "title", "side", "titleOf", "copy", "copyOf", "back", "lose",
        "listener", "told", "ask", "unask", "request", "may", "queue", "day", "serve", "parcels", "program", "error",
        "errorOf", "all", "habit", "led", "known", "sheet", "lay", "sides", "count",
    };
    /** How often each is called, in the order of NAMES. */
    private static final int[] OFTEN = {
        2, 2, 2, 2, 4, 4, 8, 12, 6, 12, 6, 14, 2,
        6, 6, 16, 2, 5, 6, 8, 10, 4, 4, 4, 8,
        4, 5, 5, 6, 4, 4, 6, 6, 6,
    };

    public static void main(String[] args) {
        long seed = args.length > 0 ? Long.parseLong(args[0]) : 20261118L;
        int runs = args.length > 1 ? Integer.parseInt(args[1]) : RUNS;
        long answers = 0;
        Map<String, Integer> seen = new HashMap<>();
        for (int run = 0; run < runs; run++) {
            Random random = new Random(seed + run);
            answers += new Run(random, run).go(seen);
        }
        for (String name : NAMES) {
            if (!seen.containsKey(name)) {
                System.out.println(name + " never answered anything but a refusal");
                System.exit(1);
            }
        }
        System.out.println(runs + " runs, " + answers + " answers as the model's");
    }

    /** One run: an object, a model, and what was called so far. */
    private static final class Run {
        private final Random random;
        private final int number;
        private final SpokenBooks books = new SpokenBooks();
        private final Model model = new Model();
        private final List<String> calls = new ArrayList<>();
        private final List<long[]> coming = new ArrayList<>();
        private final int total;
        /** Some runs have few of everything and go deep in days, some fill every table. */
        private final boolean greedy;

        Run(Random random, int number) {
            this.random = random;
            this.number = number;
            this.greedy = random.nextInt(3) == 0;
            this.total = Arrays.stream(OFTEN).sum();
        }

        long go(Map<String, Integer> seen) {
            for (int i = 0; i < CALLS; i++) {
                long[] call = next();
                int op = (int) call[0];
                String text = NAMES[op] + Arrays.toString(Arrays.copyOfRange(call, 1, call.length));
                calls.add(text);
                int got;
                try {
                    got = onBooks(op, call);
                } catch (RuntimeException | StackOverflowError thrown) {
                    fail(text + " threw " + thrown);
                    return 0;
                }
                int due = onModel(op, call);
                if (got != due) {
                    fail(text + " answered " + got + ", the model " + due);
                }
                if (due >= 0) {
                    seen.merge(NAMES[op], 1, Integer::sum);
                }
            }
            return CALLS;
        }

        private void fail(String why) {
            System.out.println("run " + number + ": " + String.join(" ", calls));
            System.out.println("run " + number + ": " + why);
            System.exit(1);
        }

        private long[] next() {
            if (!coming.isEmpty()) {
                return coming.remove(0);
            }
            if (random.nextInt(40) == 0) {
                tellRules();
                return coming.remove(0);
            }
            int pick = random.nextInt(total);
            int op = 0;
            while (pick >= OFTEN[op]) {
                pick -= OFTEN[op];
                op++;
            }
            if (!greedy && (op == 6 && model.titles.size() > 4 || op == 13 && model.listeners.size() > 3)) {
                op = 20;
            }
            return arguments(op);
        }

        private void tellRules() {
            byte[] text = Texts.make(random).getBytes(java.nio.charset.StandardCharsets.ISO_8859_1);
            coming.add(new long[] {1, 0});
            for (int i = 0; i < text.length; i += 8) {
                long v = 0;
                for (int j = i; j < i + 8; j++) {
                    v = v << 8 | (j < text.length ? text[j] & 255 : random.nextInt(256));
                }
                coming.add(new long[] {0, v});
            }
            coming.add(new long[] {1, Math.min(text.length, 200)});
            coming.add(new long[] {2});
            coming.add(new long[] {3});
            coming.add(new long[] {4, random.nextInt(60)});
        }

        /** A number that is mostly one of 0 to most less 1, now and then far off. */
        private long some(int most) {
            int kind = random.nextInt(60);
            if (kind == 0) {
                int[] far = {Integer.MIN_VALUE, Integer.MAX_VALUE, -1, -4, most, most + 1, 1 << 20, Integer.MIN_VALUE + 10};
                return far[random.nextInt(far.length)];
            }
            return kind == 1 ? random.nextInt(most + 3) - 2 : most <= 0 ? 0 : random.nextInt(most);
        }

        private long one(List<?> of) {
            return some(of.size());
        }

        private long[] arguments(int op) {
            Model m = model;
            int title = (int) one(m.titles);
            int sides = title >= 0 && title < m.titles.size() ? m.titles.get(title).sides.size() : 1;
            switch (op) {
                case 0: return new long[] {op, random.nextLong()};
                case 1: return new long[] {op, some(m.tape.size() + 1)};
                case 4: return new long[] {op, random.nextBoolean() ? some(16) : some(62)};
                case 5: return new long[] {op, some(2 + random.nextInt(3))};
                case 6: {
                    long reader = one(m.readers);
                    boolean fits = reader >= 0 && reader < m.readers.size() && random.nextInt(8) > 0;
                    return new long[] {op, fits ? m.readers.get((int) reader) : some(4), some(8), reader};
                }
                case 7: return new long[] {op, title, random.nextInt(20) == 0 ? some(100) : 1 + random.nextInt(90)};
                case 8: return new long[] {op, title, some(9 + random.nextInt(10))};
                case 9: return new long[] {op, title};
                case 10: return new long[] {op, one(m.copies), some(5)};
                case 11: return new long[] {op, aimed(2)};
                case 12: return new long[] {op, aimed(1 + random.nextInt(3))};
                case 13: return new long[] {op, random.nextInt(10) == 0 ? some(17) : 1 + random.nextInt(15), some(256)};
                case 14: return new long[] {op, one(m.listeners), some(8)};
                case 15: return new long[] {op, one(m.listeners), title};
                case 16: return new long[] {op, one(m.requests)};
                case 17: return new long[] {op, one(m.requests), some(5)};
                case 18: return new long[] {op, one(m.listeners), title};
                case 19: return new long[] {op, title, some(4)};
                case 22: return new long[] {op, some(2)};
                case 23: return program(op);
                case 24: return new long[] {op, title, some(Math.max(1, sides)), some(random.nextBoolean() ? 4 : 60), 1 + some(3)};
                case 25: return new long[] {op, one(m.errors), some(6)};
                case 26: return new long[] {op, title, some(2)};
                case 27: return new long[] {op, one(m.readers), some(2)};
                case 28: return new long[] {op, one(m.errors), some(m.today + 1)};
                case 29: return new long[] {op, random.nextInt(3) == 0 ? -4 : title, some(random.nextBoolean() ? 100 : m.today + 2)};
                case 30: return new long[] {op, some(4), some(3), random.nextInt(9) == 0 ? -some(5) : some(random.nextBoolean() ? 61 : 12)};
                case 31: return new long[] {op, some(4), some(12), random.nextInt(4) == 0 ? random.nextInt() : 1 + some(90)};
                case 32: return new long[] {op, title, some(4), some(3), some(8), 1 + some(random.nextBoolean() ? 2 : 8)};
                case 33: return new long[] {op, some(13)};
                default: return new long[] {op};
            }
        }

        /** Mostly a copy that is where the call wants it. */
        private long aimed(int where) {
            for (int i = 0; i < model.copies.size() && random.nextInt(10) > 0; i++) {
                int c = random.nextInt(model.copies.size());
                if (model.copies.get(c).where == where) {
                    return c;
                }
            }
            return one(model.copies);
        }

        private long[] program(int op) {
            int n = model.titles.size();
            long bits = random.nextInt(20) == 0 ? some(1 << n) : random.nextBoolean() ? (1 << n) - 1 : random.nextInt(1 << n);
            long hours = random.nextInt(3) == 0 ? 40 : 1 + random.nextInt(6);
            long[] call = {op, bits, some((int) hours + 1), random.nextBoolean() ? 15 : some(16), some((int) hours + 1), some(16), 0};
            for (int t = -3; t < n; t++) {
                long[] more = call.clone();
                more[6] = t == -3 ? some(12 + n) : t == -2 ? 0 : t == -1 ? 1 : 10 + t;
                coming.add(more);
            }
            return coming.remove(0);
        }

        private int onBooks(int op, long[] a) {
            SpokenBooks x = books;
            switch (op) {
                case 0: return x.feed(a[1]);
                case 1: return x.end((int) a[1]);
                case 2: return x.rules();
                case 3: return x.fault();
                case 4: return x.rule((int) a[1]);
                case 5: return x.reader((int) a[1]);
                case 6: return x.title((int) a[1], (int) a[2], (int) a[3]);
                case 7: return x.side((int) a[1], (int) a[2]);
                case 8: return x.titleOf((int) a[1], (int) a[2]);
                case 9: return x.copy((int) a[1]);
                case 10: return x.copyOf((int) a[1], (int) a[2]);
                case 11: return x.back((int) a[1]);
                case 12: return x.lose((int) a[1]);
                case 13: return x.listener((int) a[1], (int) a[2]);
                case 14: return x.told((int) a[1], (int) a[2]);
                case 15: return x.ask((int) a[1], (int) a[2]);
                case 16: return x.unask((int) a[1]);
                case 17: return x.request((int) a[1], (int) a[2]);
                case 18: return x.may((int) a[1], (int) a[2]);
                case 19: return x.queue((int) a[1], (int) a[2]);
                case 20: return x.day();
                case 21: return x.serve();
                case 22: return x.parcels((int) a[1]);
                case 23: return x.program((int) a[1], (int) a[2], (int) a[3], (int) a[4], (int) a[5], (int) a[6]);
                case 24: return x.error((int) a[1], (int) a[2], (int) a[3], (int) a[4]);
                case 25: return x.errorOf((int) a[1], (int) a[2]);
                case 26: return x.all((int) a[1], (int) a[2]);
                case 27: return x.habit((int) a[1], (int) a[2]);
                case 28: return x.led((int) a[1], (int) a[2]);
                case 29: return x.known((int) a[1], (int) a[2]);
                case 30: return x.sheet((int) a[1], (int) a[2], (int) a[3]);
                case 31: return x.lay((int) a[1], (int) a[2], (int) a[3]);
                case 32: return x.sides((int) a[1], (int) a[2], (int) a[3], (int) a[4], (int) a[5]);
                default: return x.count((int) a[1]);
            }
        }

        private int onModel(int op, long[] a) {
            Model x = model;
            switch (op) {
                case 0: return x.feed(a[1]);
                case 1: return x.end((int) a[1]);
                case 2: return x.rules();
                case 3: return x.fault;
                case 4: return x.rule((int) a[1]);
                case 5: return x.reader((int) a[1]);
                case 6: return x.title((int) a[1], (int) a[2], (int) a[3]);
                case 7: return x.side((int) a[1], (int) a[2]);
                case 8: return x.titleOf((int) a[1], (int) a[2]);
                case 9: return x.copy((int) a[1]);
                case 10: return x.copyOf((int) a[1], (int) a[2]);
                case 11: return x.back((int) a[1]);
                case 12: return x.lose((int) a[1]);
                case 13: return x.listener((int) a[1], (int) a[2]);
                case 14: return x.told((int) a[1], (int) a[2]);
                case 15: return x.ask((int) a[1], (int) a[2]);
                case 16: return x.unask((int) a[1]);
                case 17: return x.request((int) a[1], (int) a[2]);
                case 18: return x.may((int) a[1], (int) a[2]);
                case 19: return x.queue((int) a[1], (int) a[2]);
                case 20: return x.day();
                case 21: return x.serve();
                case 22: return x.parcels((int) a[1]);
                case 23: return x.program((int) a[1], new int[] {(int) a[2], (int) a[4]}, new int[] {(int) a[3], (int) a[5]}, (int) a[6]);
                case 24: return x.error((int) a[1], (int) a[2], (int) a[3], (int) a[4]);
                case 25: return x.errorOf((int) a[1], (int) a[2]);
                case 26: return x.all((int) a[1], (int) a[2]);
                case 27: return x.habit((int) a[1], (int) a[2]);
                case 28: return x.led((int) a[1], (int) a[2]);
                case 29: return x.known((int) a[1], (int) a[2]);
                case 30: return x.sheet((int) a[1], (int) a[2], (int) a[3]);
                case 31: return x.lay((int) a[1], (int) a[2], (int) a[3]);
                case 32: return x.sides((int) a[1], (int) a[2], (int) a[3], (int) a[4], (int) a[5]);
                default: return x.count((int) a[1]);
            }
        }
    }

    /** Texts of rules, most of them good, some spoiled. */
    private static final class Texts {
        static String make(Random random) {
            List<String> lines = new ArrayList<>();
            String[] names = {"loan", "days", "lag", "life", "again"};
            int[][] bounds = {{1, 6}, {1, 60}, {0, 9}, {1, 99}, {0, 99}};
            for (int i = 0; i < 5; i++) {
                if (random.nextInt(3) > 0) {
                    int most = random.nextBoolean() ? Math.min(bounds[i][1], 3) : bounds[i][1] + (random.nextInt(12) == 0 ? 1 : 0);
                    int v = bounds[i][0] + random.nextInt(most - bounds[i][0] + 1);
                    lines.add(names[i] + gap(random, true) + v + gap(random, false) + ";");
                }
            }
            if (random.nextInt(4) > 0) {
                lines.add(keys(random));
            }
            for (int i = random.nextInt(4); i > 0; i--) {
                int from = random.nextInt(random.nextBoolean() ? 20 : 99);
                lines.add("right " + random.nextInt(random.nextInt(9) == 0 ? 14 : 12) + " " + from + " "
                    + (from + random.nextInt(60) - (random.nextInt(9) == 0 ? 3 : 0)) + ";");
            }
            if (random.nextInt(12) == 0 && !lines.isEmpty()) {
                lines.add(lines.get(random.nextInt(lines.size())));
            }
            java.util.Collections.shuffle(lines, random);
            StringBuilder text = new StringBuilder();
            for (String line : lines) {
                text.append(line).append(gap(random, false));
            }
            for (int i = random.nextInt(3) == 0 ? 1 + random.nextInt(2) : 0; i > 0; i--) {
                spoil(text, random);
            }
            text.setLength(Math.min(text.length(), 200));
            return text.toString();
        }

        private static String gap(Random random, boolean needed) {
            int n = random.nextInt(8) == 0 ? random.nextInt(3) : needed ? 1 : 0;
            return "   ".substring(0, n);
        }

        private static String keys(Random random) {
            List<String> keys = new ArrayList<>(List.of("waited", "had", "late", "likes", "number"));
            java.util.Collections.shuffle(keys, random);
            StringBuilder line = new StringBuilder("queue ");
            int n = 1 + random.nextInt(5);
            for (int i = 0; i < n; i++) {
                line.append(i > 0 ? "," : "").append(random.nextBoolean() ? "+" : "-").append(gap(random, false));
                line.append(keys.get(random.nextInt(40) == 0 ? 0 : i));
            }
            return line.append(";").toString();
        }

        private static void spoil(StringBuilder text, Random random) {
            String signs = "+-,; .09az{`A:/\t\u0080\u00ff\u0000";
            String[] bits = {"loan ", "late", "queue", "right ", "had", "7", "12", "1000", ";;", "+ ", "days 5;"};
            int at = random.nextInt(text.length() + 1);
            switch (random.nextInt(4)) {
                case 0: text.insert(at, signs.charAt(random.nextInt(signs.length()))); break;
                case 1: text.insert(at, bits[random.nextInt(bits.length)]); break;
                case 2: text.setLength(at); break;
                default:
                    if (at < text.length()) {
                        text.deleteCharAt(at);
                    }
            }
        }
    }

    /** The document, in its plainest form. */
    private static final class Model {
        static final int BAD = -1, STATE = -2, FULL = -3, NONE = -4;

        static final class Title { int tongue, kin, reader; final List<Integer> sides = new ArrayList<>(); }
        static final class Copy { int title, where, listener = NONE, plays, since; }
        static final class Listener { int tongues, likes; final List<int[]> came = new ArrayList<>(); }
        static final class Request { int listener, title, day, state, copy = NONE; }
        static final class Fail { int title, side, minute, ears, day; }
        static final class Told {
            final Map<String, Integer> numbers = new HashMap<>(Map.of("loan", 2, "days", 14, "lag", 2, "life", 20, "again", 0));
            List<String> keys = new ArrayList<>(List.of("+waited"));
            final Map<Integer, int[]> rights = new HashMap<>();
        }
        @SuppressWarnings("serial")
        static final class Fault extends Exception {
            final int kind, place;
            Fault(int kind, int place) { this.kind = kind; this.place = place; }
        }

        final List<Integer> tape = new ArrayList<>();
        final List<Integer> readers = new ArrayList<>();
        final List<Title> titles = new ArrayList<>();
        final List<Copy> copies = new ArrayList<>();
        final List<Listener> listeners = new ArrayList<>();
        final List<Request> requests = new ArrayList<>();
        final List<Fail> errors = new ArrayList<>();
        final List<List<Integer>> history = new ArrayList<>();
        final Object[] sheets = new Object[4];
        Told told = new Told();
        int today, fault;

        // ---- rules

        int feed(long v) {
            if (tape.size() + 8 > 200) { return FULL; }
            for (int shift = 56; shift >= 0; shift -= 8) { tape.add((int) (v >>> shift & 255)); }
            return tape.size();
        }

        int end(int n) {
            if (n < 0 || n > tape.size()) { return BAD; }
            int had = tape.size();
            tape.subList(n, had).clear();
            return had;
        }

        static final List<String> LINES = List.of("loan", "days", "lag", "life", "again", "queue", "right");
        static final List<String> KEYS = List.of("waited", "had", "late", "likes", "number");
        static final int[][] BOUNDS = {{1, 6}, {1, 60}, {0, 9}, {1, 99}, {0, 99}};
        private int at, place;

        int rules() {
            at = 0;
            Told then = new Told();
            int lines = 0;
            List<String> done = new ArrayList<>();
            try {
                for (String token = token(); !token.isEmpty(); token = token()) {
                    line(token, then, done);
                    lines++;
                }
                told = then;
                fault = 0;
                return lines;
            } catch (Fault f) {
                fault = f.kind;
                return -10 - f.place;
            } finally {
                tape.clear();
            }
        }

        private void line(String token, Told then, List<String> done) throws Fault {
            if (!LINES.contains(token)) { throw new Fault(2, place); }
            if (token.equals("right")) {
                int t = number(0, 11);
                if (then.rights.containsKey(t)) { throw new Fault(4, place); }
                int from = number(0, 999);
                then.rights.put(t, new int[] {from, number(from, 999)});
                must(";");
                return;
            }
            if (done.contains(token)) { throw new Fault(4, place); }
            done.add(token);
            if (!token.equals("queue")) {
                int[] bounds = BOUNDS[LINES.indexOf(token)];
                then.numbers.put(token, number(bounds[0], bounds[1]));
                must(";");
                return;
            }
            then.keys = new ArrayList<>();
            String sign;
            do {
                String way = token();
                if (!way.equals("+") && !way.equals("-")) { throw new Fault(2, place); }
                String key = token();
                if (!KEYS.contains(key)) { throw new Fault(2, place); }
                if (then.keys.contains("+" + key) || then.keys.contains("-" + key)) { throw new Fault(4, place); }
                then.keys.add(way + key);
                sign = token();
                if (!sign.equals(",") && !sign.equals(";")) { throw new Fault(2, place); }
            } while (sign.equals(","));
        }

        private int number(int least, int most) throws Fault {
            String token = token();
            if (!token.matches("[0-9]+")) { throw new Fault(2, place); }
            int v = Integer.parseInt(token);
            if (v < least || v > most) { throw new Fault(3, place); }
            return v;
        }

        private void must(String sign) throws Fault {
            if (!token().equals(sign)) { throw new Fault(2, place); }
        }

        private String token() throws Fault {
            StringBuilder rest = new StringBuilder();
            for (int b : tape) { rest.append((char) b); }
            while (at < tape.size() && tape.get(at) == 32) { at++; }
            place = at;
            java.util.regex.Matcher m = java.util.regex.Pattern.compile("[a-z]+|[0-9]+|[-+,;]").matcher(rest.substring(at));
            if (at == tape.size()) { return ""; }
            if (!m.lookingAt()) { throw new Fault(1, place); }
            String token = m.group();
            at += token.length();
            boolean name = Character.isLetter(token.charAt(0)) && !LINES.contains(token) && !KEYS.contains(token);
            boolean tooLong = Character.isDigit(token.charAt(0)) && token.length() > 3;
            if (name || tooLong) { throw new Fault(1, place); }
            return token;
        }

        private int n(String name) { return told.numbers.get(name); }

        int rule(int what) {
            if (what >= 0 && what < 5) { return n(LINES.get(what)); }
            if (what == 5) { return told.keys.size(); }
            if (what >= 10 && what < 10 + told.keys.size()) {
                String key = told.keys.get(what - 10);
                return KEYS.indexOf(key.substring(1)) + (key.charAt(0) == '-' ? 10 : 0);
            }
            if (what >= 20 && what < 32) { return told.rights.containsKey(what - 20) ? told.rights.get(what - 20)[0] : NONE; }
            if (what >= 40 && what < 52) { return told.rights.containsKey(what - 40) ? told.rights.get(what - 40)[1] : NONE; }
            return BAD;
        }

        // ---- titles, copies

        private static boolean no(int i, List<?> of) { return i < 0 || i >= of.size(); }

        int reader(int tongue) {
            if (tongue < 0 || tongue > 3) { return BAD; }
            if (readers.size() == 6) { return FULL; }
            readers.add(tongue);
            return readers.size() - 1;
        }

        int title(int tongue, int kin, int reader) {
            if (tongue < 0 || tongue > 3 || kin < 0 || kin > 7 || no(reader, readers) || readers.get(reader) != tongue) { return BAD; }
            if (titles.size() == 12) { return FULL; }
            Title t = new Title();
            t.tongue = tongue;
            t.kin = kin;
            t.reader = reader;
            titles.add(t);
            return titles.size() - 1;
        }

        int side(int t, int minutes) {
            if (no(t, titles) || minutes < 1 || minutes > 90) { return BAD; }
            List<Integer> sides = titles.get(t).sides;
            if (sides.size() == 8) { return FULL; }
            sides.add(minutes);
            return sides.size();
        }

        private int minutes(int t) { return titles.get(t).sides.stream().mapToInt(i -> i).sum(); }

        private int inHouse(int t) { return (int) copies.stream().filter(c -> c.title == t && c.where == 0).count(); }

        private int waitFor(int t) { return (int) requests.stream().filter(r -> r.title == t && r.state == 0).count(); }

        int titleOf(int t, int what) {
            if (no(t, titles)) { return BAD; }
            Title title = titles.get(t);
            if (what >= 10 && what < 10 + title.sides.size()) { return title.sides.get(what - 10); }
            switch (what) {
                case 0: return title.tongue;
                case 1: return title.kin;
                case 2: return title.reader;
                case 3: return title.sides.size();
                case 4: return minutes(t);
                case 5: return (int) copies.stream().filter(c -> c.title == t).count();
                case 6: return inHouse(t);
                case 7: return waitFor(t);
                case 8: return (int) errors.stream().filter(e -> e.title == t).count();
                default: return BAD;
            }
        }

        int copy(int t) {
            if (no(t, titles)) { return BAD; }
            if (titles.get(t).sides.isEmpty()) { return STATE; }
            if (copies.size() == 24) { return FULL; }
            Copy c = new Copy();
            c.title = t;
            c.since = today;
            copies.add(c);
            return copies.size() - 1;
        }

        int copyOf(int c, int what) {
            if (no(c, copies) || what < 0 || what > 4) { return BAD; }
            Copy copy = copies.get(c);
            boolean nobody = copy.where == 0 || copy.where == 4 || copy.where == 5;
            return new int[] {copy.title, copy.where, nobody ? NONE : copy.listener, copy.plays, copy.since}[what];
        }

        private void move(Copy c, int where) {
            c.where = where;
            c.since = today;
        }

        int back(int c) {
            if (no(c, copies)) { return BAD; }
            Copy copy = copies.get(c);
            if (copy.where != 2) { return STATE; }
            move(copy, 3);
            if (n("lag") == 0) { move(copy, copy.plays >= n("life") ? 5 : 0); }
            return copy.where;
        }

        int lose(int c) {
            if (no(c, copies)) { return BAD; }
            int was = copies.get(c).where;
            if (was == 0 || was > 3) { return STATE; }
            move(copies.get(c), 4);
            return was;
        }

        // ---- listeners, requests

        int listener(int tongues, int likes) {
            if (tongues < 1 || tongues > 15 || likes < 0 || likes > 255) { return BAD; }
            if (listeners.size() == 10) { return FULL; }
            Listener l = new Listener();
            l.tongues = tongues;
            l.likes = likes;
            listeners.add(l);
            return listeners.size() - 1;
        }

        private int has(int l) { return (int) copies.stream().filter(c -> c.listener == l && (c.where == 1 || c.where == 2)).count(); }

        private int late(int l) {
            return (int) copies.stream().filter(c -> c.listener == l && c.where == 2 && today - c.since > n("days")).count();
        }

        int told(int l, int what) {
            if (no(l, listeners)) { return BAD; }
            Listener it = listeners.get(l);
            switch (what) {
                case 0: return it.tongues;
                case 1: return it.likes;
                case 2: return has(l);
                case 3: return (int) copies.stream().filter(c -> c.listener == l && c.where == 2).count();
                case 4: return late(l);
                case 5: return (int) requests.stream().filter(r -> r.listener == l && r.state == 0).count();
                case 6: return it.came.size();
                case 7: return it.came.stream().mapToInt(came -> 1 << came[0]).reduce(0, (a, b) -> a | b);
                default: return BAD;
            }
        }

        int ask(int l, int t) {
            if (no(l, listeners) || no(t, titles)) { return BAD; }
            if (requests.stream().anyMatch(r -> r.listener == l && r.title == t && r.state == 0)) { return STATE; }
            if (requests.size() == 30) { return FULL; }
            Request r = new Request();
            r.listener = l;
            r.title = t;
            r.day = today;
            requests.add(r);
            return requests.size() - 1;
        }

        int unask(int r) {
            if (no(r, requests)) { return BAD; }
            if (requests.get(r).state != 0) { return STATE; }
            requests.get(r).state = 2;
            return 1;
        }

        int request(int r, int what) {
            if (no(r, requests) || what < 0 || what > 4) { return BAD; }
            Request it = requests.get(r);
            return new int[] {it.listener, it.title, it.day, it.state, it.copy}[what];
        }

        private boolean mayBeSent(int l, int t) {
            if ((listeners.get(l).tongues & 1 << titles.get(t).tongue) == 0) { return false; }
            int[] right = told.rights.get(t);
            if (right != null && (today < right[0] || today > right[1])) { return false; }
            for (Copy c : copies) {
                if (c.title == t && c.listener == l && c.where >= 1 && c.where <= 3) { return false; }
            }
            int latest = listeners.get(l).came.stream().filter(came -> came[0] == t).mapToInt(came -> came[1]).max().orElse(-1);
            return latest < 0 || n("again") > 0 && latest + n("again") <= today;
        }

        int may(int l, int t) {
            return no(l, listeners) || no(t, titles) ? BAD : mayBeSent(l, t) ? 1 : 0;
        }

        private int key(String name, int r) {
            Request it = requests.get(r);
            switch (name) {
                case "waited": return today - it.day;
                case "had": return listeners.get(it.listener).came.size();
                case "late": return late(it.listener);
                case "likes": return listeners.get(it.listener).likes >> titles.get(it.title).kin & 1;
                default: return r;
            }
        }

        private List<Integer> queueOf(int t) {
            List<Integer> queue = new ArrayList<>();
            for (int r = 0; r < requests.size(); r++) {
                Request it = requests.get(r);
                if (it.title == t && it.state == 0 && mayBeSent(it.listener, t) && has(it.listener) < n("loan")) { queue.add(r); }
            }
            Comparator<Integer> order = Comparator.comparingInt(r -> 0);
            for (String key : told.keys) {
                int way = key.charAt(0) == '+' ? -1 : 1;
                order = order.thenComparingInt(r -> way * key(key.substring(1), r));
            }
            queue.sort(order.thenComparingInt(r -> r));
            return queue;
        }

        int queue(int t, int i) {
            if (no(t, titles) || i < 0) { return BAD; }
            List<Integer> queue = queueOf(t);
            return i < queue.size() ? queue.get(i) : NONE;
        }

        private void come(Copy c) {
            move(c, 2);
            c.plays++;
            listeners.get(c.listener).came.add(new int[] {c.title, today});
        }

        private List<Integer> withListeners() {
            List<Integer> with = new ArrayList<>();
            for (int c = 0; c < copies.size(); c++) {
                if (copies.get(c).where == 2) { with.add(c); }
            }
            return with;
        }

        int day() {
            if (today == 99) { return FULL; }
            history.add(withListeners());
            today++;
            for (Copy c : copies) {
                if (today - c.since < n("lag")) { continue; }
                if (c.where == 1) { come(c); } else if (c.where == 3) { move(c, c.plays >= n("life") ? 5 : 0); }
            }
            return serve();
        }

        int serve() {
            int out = 0;
            for (int t = 0; t < titles.size(); t++) {
                while (inHouse(t) > 0 && !queueOf(t).isEmpty()) {
                    int title = t;
                    Copy c = copies.stream().filter(x -> x.title == title && x.where == 0)
                        .min(Comparator.comparingInt(x -> x.plays)).orElseThrow();
                    Request r = requests.get(queueOf(t).get(0));
                    r.state = 1;
                    r.copy = copies.indexOf(c);
                    c.listener = r.listener;
                    move(c, 1);
                    if (n("lag") == 0) { come(c); }
                    out++;
                }
            }
            return out;
        }

        // ---- parcels, program

        int parcels(int what) {
            if (what < 0 || what > 1) { return BAD; }
            int[] answer = canceled();
            if (listeners.size() <= 4 && titles.size() <= 5) {
                int[] spare = new int[titles.size()];
                for (int t = 0; t < spare.length; t++) { spare[t] = inHouse(t); }
                int best = enumerated(0, spare);
                if (best != answer[0] * 1000 + answer[1]) { throw new IllegalStateException("the model differs from itself"); }
            }
            return answer[what];
        }

        /** All ways, listener by listener: 1000 times the pairs, and the liked ones. */
        private int enumerated(int l, int[] spare) {
            if (l == listeners.size()) { return 0; }
            int best = 0;
            for (int bits = 0; bits < 1 << spare.length; bits++) {
                if (Integer.bitCount(bits) > Math.max(0, n("loan") - has(l))) { continue; }
                int[] left = spare.clone();
                int worth = 0;
                boolean fits = true;
                for (int t = 0; t < spare.length; t++) {
                    if ((bits >> t & 1) != 0) {
                        left[t]--;
                        fits &= left[t] >= 0 && mayBeSent(l, t);
                        worth += 1000 + (listeners.get(l).likes >> titles.get(t).kin & 1);
                    }
                }
                if (fits) { best = Math.max(best, worth + enumerated(l + 1, left)); }
            }
            return best;
        }

        /** Any fullest flow first, then cycles that gain liked pairs are turned until there is none. */
        private int[] canceled() {
            int ts = titles.size(), ls = listeners.size(), nodes = ts + ls + 2, source = ts + ls, sink = source + 1;
            int[][] room = new int[nodes][nodes];
            int[][] cost = new int[nodes][nodes];
            for (int t = 0; t < ts; t++) {
                room[source][t] = inHouse(t);
                for (int l = 0; l < ls; l++) {
                    room[ts + l][sink] = Math.max(0, n("loan") - has(l));
                    room[t][ts + l] = mayBeSent(l, t) ? 1 : 0;
                    cost[t][ts + l] = -(listeners.get(l).likes >> titles.get(t).kin & 1);
                    cost[ts + l][t] = -cost[t][ts + l];
                }
            }
            int pairs = 0;
            while (push(room, source, sink, new boolean[nodes])) { pairs++; }
            int liked = 0;
            for (int gain = turn(room, cost); gain > 0; gain = turn(room, cost)) { liked += gain; }
            for (int t = 0; t < ts; t++) {
                for (int l = 0; l < ls; l++) {
                    if (room[ts + l][t] == 1 && cost[t][ts + l] < 0) { liked += 1000; }
                }
            }
            return new int[] {pairs, liked / 1000};
        }

        private static boolean push(int[][] room, int from, int sink, boolean[] seen) {
            if (from == sink) { return true; }
            seen[from] = true;
            for (int to = 0; to < room.length; to++) {
                if (room[from][to] > 0 && !seen[to] && push(room, to, sink, seen)) {
                    room[from][to]--;
                    room[to][from]++;
                    return true;
                }
            }
            return false;
        }

        private static int turn(int[][] room, int[][] cost) {
            int nodes = room.length;
            int[] far = new int[nodes];
            int[] from = new int[nodes];
            Arrays.fill(from, -1);
            int last = -1;
            for (int round = 0; round < nodes; round++) {
                last = -1;
                for (int a = 0; a < nodes; a++) {
                    for (int b = 0; b < nodes; b++) {
                        if (room[a][b] > 0 && far[a] + cost[a][b] < far[b]) {
                            far[b] = far[a] + cost[a][b];
                            from[b] = a;
                            last = b;
                        }
                    }
                }
            }
            if (last < 0) { return 0; }
            for (int i = 0; i < nodes; i++) { last = from[last]; }
            int gain = 0;
            int b = last;
            do {
                int a = from[b];
                room[a][b]--;
                room[b][a]++;
                gain -= cost[a][b];
                b = a;
            } while (b != last);
            return gain;
        }

        private int[] bestRow;
        private int bestRequests, bestMinutes;

        int program(int bits, int[] hours, int[] tongues, int what) {
            if (bits < 0 || bits >> titles.size() != 0) { return BAD; }
            for (int v = 0; v < 2; v++) {
                if (hours[v] < 0 || hours[v] > 40 || tongues[v] < 0 || tongues[v] > 15) { return BAD; }
            }
            if (what != 0 && what != 1 && (what < 10 || what >= 10 + titles.size())) { return BAD; }
            bestRow = null;
            rows(bits, new int[] {hours[0] * 60, hours[1] * 60}, tongues, new int[titles.size()], 0);
            return what == 0 ? bestRequests : what == 1 ? bestMinutes : bestRow[what - 10];
        }

        /** All rows, the least first, so that of equal ones the first is kept. */
        private void rows(int bits, int[] left, int[] tongues, int[] row, int t) {
            if (t == row.length) {
                int wanted = 0, minutes = 0;
                for (int i = 0; i < row.length; i++) {
                    wanted += row[i] > 0 ? waitFor(i) : 0;
                    minutes += row[i] > 0 ? minutes(i) : 0;
                }
                if (bestRow == null || wanted > bestRequests || wanted == bestRequests && minutes < bestMinutes) {
                    bestRow = row.clone();
                    bestRequests = wanted;
                    bestMinutes = minutes;
                }
                return;
            }
            row[t] = 0;
            rows(bits, left, tongues, row, t + 1);
            // a title for which nobody waits can only add minutes, or make the row greater
            for (int v = 0; v < 2 && (bits >> t & 1) != 0 && (titles.size() < 8 || waitFor(t) > 0); v++) {
                if ((tongues[v] >> titles.get(t).tongue & 1) != 0 && minutes(t) <= left[v]) {
                    row[t] = v + 1;
                    left[v] -= minutes(t);
                    rows(bits, left, tongues, row, t + 1);
                    left[v] += minutes(t);
                    row[t] = 0;
                }
            }
        }

        // ---- errors

        int error(int t, int side, int minute, int ears) {
            if (no(t, titles) || no(side, titles.get(t).sides) || minute < 0 || minute >= titles.get(t).sides.get(side)
                    || ears < 1 || ears > 3) {
                return BAD;
            }
            for (Fail e : errors) {
                if (e.title == t && e.side == side && e.minute == minute) {
                    e.ears |= ears;
                    return errors.indexOf(e);
                }
            }
            if (errors.size() == 40) { return FULL; }
            Fail e = new Fail();
            e.title = t;
            e.side = side;
            e.minute = minute;
            e.ears = ears;
            e.day = today;
            errors.add(e);
            return errors.size() - 1;
        }

        int errorOf(int e, int what) {
            if (no(e, errors) || what < 0 || what > 5) { return BAD; }
            Fail it = errors.get(e);
            return new int[] {it.title, it.side, it.minute, it.ears, it.day, titles.get(it.title).reader}[what];
        }

        private static int fraction(int above, int below, int what) {
            for (int d = Math.max(above, below); d > 1; d--) {
                if (above % d == 0 && below % d == 0) { return (what == 0 ? above : below) / d; }
            }
            return what == 0 ? above : below;
        }

        int all(int t, int what) {
            if (no(t, titles) || what < 0 || what > 1) { return BAD; }
            int a = 0, b = 0, both = 0, any = 0;
            for (Fail e : errors) {
                if (e.title == t) {
                    any++;
                    a += e.ears != 2 ? 1 : 0;
                    b += e.ears != 1 ? 1 : 0;
                    both += e.ears == 3 ? 1 : 0;
                }
            }
            return both > 0 ? fraction(a * b, both, what) : fraction(any, 1, what);
        }

        int habit(int r, int what) {
            if (no(r, readers) || what < 0 || what > 1) { return BAD; }
            int found = (int) errors.stream().filter(e -> titles.get(e.title).reader == r).count();
            int minutes = 0;
            for (int t = 0; t < titles.size(); t++) { minutes += titles.get(t).reader == r ? minutes(t) : 0; }
            return minutes == 0 ? what : fraction(found, minutes, what);
        }

        int led(int e, int day) {
            if (no(e, errors) || day < 0 || day > today) { return BAD; }
            if (errors.get(e).day > day) { return NONE; }
            int bits = 0;
            for (int c : day == today ? withListeners() : history.get(day)) {
                bits |= copies.get(c).title == errors.get(e).title ? 1 << c : 0;
            }
            return bits;
        }

        int known(int t, int day) {
            if (t != NONE && no(t, titles) || day < 0 || day > 99) { return BAD; }
            return (int) errors.stream().filter(e -> (t == NONE || e.title == t) && e.day <= day).count();
        }

        // ---- sheets: here they are true rows of the machine

        int sheet(int k, int lane, int n) {
            if (k < 0 || k > 3 || lane < 0 || lane > 2 || n > 60) { return BAD; }
            if (n < 0) { return -14; }
            sheets[k] = lane == 0 ? new byte[n] : lane == 1 ? (Object) new short[n] : new int[n];
            return 1;
        }

        int lay(int k, int i, int v) {
            if (k < 0 || k > 3) { return BAD; }
            if (sheets[k] == null) { return -11; }
            if (i < 0 || i >= java.lang.reflect.Array.getLength(sheets[k])) { return -12; }
            if (sheets[k] instanceof byte[] row) { row[i] = (byte) v; }
            if (sheets[k] instanceof short[] row) { row[i] = (short) v; }
            if (sheets[k] instanceof int[] row) { row[i] = v; }
            return 1;
        }

        int sides(int t, int k, int lane, int f, int n) {
            if (no(t, titles) || k < 0 || k > 3 || lane < 0 || lane > 2 || n < 1 || n > 8) { return BAD; }
            if (!titles.get(t).sides.isEmpty()) { return STATE; }
            if (sheets[k] == null) { return -11; }
            if (!List.of(byte[].class, short[].class, int[].class).get(lane).isInstance(sheets[k])) { return -13; }
            List<Integer> come = new ArrayList<>();
            for (int i = 0; i < n; i++) {
                long cell = (long) f + i;
                if (cell < 0 || cell >= java.lang.reflect.Array.getLength(sheets[k])) { return -12; }
                int minutes = java.lang.reflect.Array.getInt(sheets[k], (int) cell);
                if (minutes < 1 || minutes > 90) { return -20 - i; }
                come.add(minutes);
            }
            titles.get(t).sides.addAll(come);
            return n;
        }

        int count(int what) {
            switch (what) {
                case 0: return readers.size();
                case 1: return titles.size();
                case 2: return copies.size();
                case 3: return listeners.size();
                case 4: return requests.size();
                case 5: return (int) requests.stream().filter(r -> r.state == 0).count();
                case 6: return errors.size();
                case 7: return today;
                case 8: return withListeners().size();
                case 9: return (int) copies.stream().filter(c -> c.where == 5).count();
                case 10: return (int) copies.stream().filter(c -> c.where == 4).count();
                case 11: return tape.size();
                case 12: return sheets[0] == null ? NONE : java.lang.reflect.Array.getLength(sheets[0]);
                default: return BAD;
            }
        }
    }
}
