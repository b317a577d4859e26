import java.io.IOException;
import java.nio.file.Files;
import java.nio.file.Path;
import java.util.ArrayList;
import java.util.BitSet;
import java.util.List;
import java.util.Map;
import java.util.TreeMap;
import java.util.regex.Matcher;
import java.util.regex.Pattern;

/** What the tests of single sentences share: every group of answers is held to the sentence that asks for it. */
class Edges {
    static final int BAD = -1, STATE = -2, FULL = -3, NONE = -4;
    static final int MAX = Integer.MAX_VALUE, MIN = Integer.MIN_VALUE;

    /* Sections of the document beside the promises, which go by their numbers. */
    static final int INTRODUCTION = -1, TERMS = 0, LAST_PROMISE = 35;

    private static final Map<Integer, List<String>> QUOTES = new TreeMap<>();
    private static int section;
    private static String quote = "";
    private static int askedOfQuote = 1;
    private static int asked;
    private static int sentences;
    private static int wrong;

    /** The answers from here on are asked for by this sentence of a section. */
    static void says(int itsSection, String itsQuote) {
        endSentence();
        section = itsSection;
        quote = itsQuote;
        askedOfQuote = 0;
        sentences++;
        QUOTES.computeIfAbsent(itsSection, s -> new ArrayList<>()).add(itsQuote);
    }

    static void is(String call, int got, int want) {
        asked++;
        askedOfQuote++;
        if (got != want) {
            complain(call + " answered " + got + ", due is " + want);
        }
    }

    static void complain(String what) {
        wrong++;
        System.out.println(name(section) + ", \"" + quote + "\": " + what);
    }

    private static String name(int itsSection) {
        return itsSection == INTRODUCTION ? "What it is" : itsSection == TERMS ? "Terms" : "Promise " + itsSection;
    }

    private static void endSentence() {
        if (askedOfQuote == 0) {
            complain("nothing was asked");
        }
    }

    /** Says what came of it all: whether nothing was wrong. */
    static boolean finish() throws IOException {
        endSentence();
        compareWithDocument();
        System.out.println(sentences + " sentences, " + asked + " answers, " + wrong + " not as due");
        return wrong == 0;
    }

    /** Every sentence that is tested stands in the document, and every one that stands there is tested. */
    private static void compareWithDocument() throws IOException {
        Path path = Path.of("..", "shared", "DOC.md");
        if (!Files.isReadable(path)) {
            System.out.println("there is no " + path + " to hold the sentences to");
            return;
        }
        String document = Files.readString(path);
        for (int s = INTRODUCTION; s <= LAST_PROMISE; s++) {
            String text = sectionText(document, s);
            BitSet covered = new BitSet();
            for (String itsQuote : QUOTES.getOrDefault(s, List.of())) {
                section = s;
                quote = itsQuote;
                int at = text.indexOf(itsQuote);
                if (at < 0) {
                    complain("the document does not say so");
                }
                for (; at >= 0; at = text.indexOf(itsQuote, at + 1)) {
                    covered.set(at, at + itsQuote.length());
                }
            }
            if (s >= TERMS) {
                complainOfUntested(s, text, covered);
            }
        }
    }

    private static String sectionText(String document, int itsSection) {
        Matcher found = Pattern.compile("\n## " + name(itsSection) + "\\b[^\n]*\n(.*?)\n## ", Pattern.DOTALL)
            .matcher(document);
        String text = found.find() ? found.group(1) : "";
        return text.replaceAll("`[^`\n]*`: ", "").replaceAll("```text|```|={8} \\d", "")
            .replaceAll("Ahead of the calls .*", "").replaceAll("\\s+", " ");
    }

    private static void complainOfUntested(int itsSection, String text, BitSet covered) {
        for (int from = covered.nextClearBit(0); from < text.length();) {
            int to = covered.nextSetBit(from);
            String rest = text.substring(from, to < 0 ? text.length() : to);
            if (rest.matches(".*[A-Za-z0-9].*")) {
                section = itsSection;
                quote = rest.trim();
                complain("no test names it");
            }
            from = to < 0 ? text.length() : covered.nextClearBit(to);
        }
    }

    // ---- tapes

    /** Feeds a text, eight bytes at a time, and cuts what was filled up behind it. */
    static void write(SpokenBooks x, String text) {
        int before = x.count(11);
        for (int i = 0; i < text.length(); i += 8) {
            long v = 0;
            for (int j = i; j < i + 8; j++) {
                v = v << 8 | (j < text.length() ? text.charAt(j) & 255 : ' ');
            }
            x.feed(v);
        }
        x.end(before + text.length());
    }

    static int tell(SpokenBooks x, String text) {
        write(x, text);
        return x.rules();
    }

    /** A text that has a fault at a place. */
    static void faulty(String text, int fault, int place) {
        SpokenBooks x = new SpokenBooks();
        is("rules() of '" + text + "'", tell(x, text), -10 - place);
        is("fault() of '" + text + "'", x.fault(), fault);
    }

    /** A text of so many lines, without a fault: an object whose rules it tells. */
    static SpokenBooks good(String text, int lines) {
        SpokenBooks x = new SpokenBooks();
        is("rules() of '" + text + "'", tell(x, text), lines);
        is("fault() of '" + text + "'", x.fault(), 0);
        return x;
    }

    // ---- houses

    /** Readers 0 to 3 of the tongues 0 to 3. */
    static SpokenBooks readers() {
        SpokenBooks x = new SpokenBooks();
        for (int tongue = 0; tongue < 4; tongue++) {
            x.reader(tongue);
        }
        return x;
    }

    /** So many titles of tongue 0, of the kins 0, 1, 2 .., each of one side of 30 minutes. */
    static SpokenBooks house(int titles) {
        SpokenBooks x = readers();
        for (int t = 0; t < titles; t++) {
            x.title(0, t % 8, 0);
            x.side(t, 30);
        }
        return x;
    }

    /** A house under rules, each title with so many copies, with listeners of tongue 0 who like nothing. */
    static SpokenBooks house(String rules, int titles, int copiesOfEach, int listeners) {
        SpokenBooks x = house(titles);
        tell(x, rules);
        for (int i = 0; i < copiesOfEach; i++) {
            for (int t = 0; t < titles; t++) {
                x.copy(t);
            }
        }
        for (int l = 0; l < listeners; l++) {
            x.listener(1, 0);
        }
        return x;
    }

    static void days(SpokenBooks x, int n) {
        for (int i = 0; i < n; i++) {
            x.day();
        }
    }

    /** The whole queue of a title. */
    static void line(SpokenBooks x, String why, int t, int... requests) {
        for (int i = 0; i <= requests.length; i++) {
            is("queue(" + t + ", " + i + "), " + why, x.queue(t, i), i < requests.length ? requests[i] : NONE);
        }
    }
}
