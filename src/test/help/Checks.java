import java.io.IOException;
import java.nio.file.Files;
import java.nio.file.Path;

/**
 * What the tests of boundaries share: the sentence of the document that is held at hand, the checks of it,
 * and which words of the document no test has named.
 */
class Checks {

    static final int NONE = -1, BAD = -2, NOT = -3, FULL = -4;
    static final int NULL = -11, INDEX = -12, CAST = -13, STORE = -14, SIZE = -15;
    static final int LEAST_INT = Integer.MIN_VALUE, MOST_INT = Integer.MAX_VALUE;
    static final long LEAST_LONG = Long.MIN_VALUE;
    static final long LONG_BAD = LEAST_LONG + 2, LONG_NOT = LEAST_LONG + 3;

    private static final Path DOCUMENT = Path.of("../shared/DOC.md");

    private static final String document = read();
    private static String section = "";
    private static String sectionName = "";
    private static boolean[] named = new boolean[0];
    private static String sentence = "";
    private static int checksOfSentence = 1;
    private static int sentences = 0;
    private static int checks = 0;
    private static int wrong = 0;

    interface Act {
        long on(WordsKnown x);
    }

    interface NumberAct {
        long on(int v);
    }

    // ---- the document

    private static String read() {
        try {
            return Files.readString(DOCUMENT);
        } catch (IOException e) {
            System.out.println(DOCUMENT + " can't be read: that its sentences are named is not checked");
            return "";
        }
    }

    /** The sentences from here on stand between two headings of the document. */
    static void section(String from, String to) {
        endSection();
        sectionName = from;
        int start = document.indexOf(from), end = document.indexOf(to);
        section = start < 0 || end < start ? "" : plain(document.substring(start + from.length(), end));
        if (!document.isEmpty() && section.isEmpty()) fault("the document has no section " + from);
        named = new boolean[section.length()];
    }

    /** Without what is no sentence: the signs around a text, the numbers of parts, the head of a promise. */
    private static String plain(String text) {
        String bare = text.replaceAll("(?m)^```.*$", " ").replaceAll("(?m)^Ahead of the calls.*$", " ");
        return bare.replaceAll("======== \\d ", " ").replaceAll("^[^`]*`[^`]*`: ", " ").replaceAll("\\s+", " ");
    }

    /** Each word of the section has to be named by a sentence. */
    static void endSection() {
        endSentence();
        StringBuilder missed = new StringBuilder();
        for (int i = 0; i < section.length(); i++) {
            boolean counts = Character.isLetterOrDigit(section.charAt(i)) && !named[i];
            if (counts) missed.append(section.charAt(i));
            else if (missed.length() > 0 && missed.charAt(missed.length() - 1) != ' ') missed.append(' ');
        }
        if (missed.length() > 0) fault(sectionName + ": no test names: " + missed);
        section = "";
    }

    /** The sentence that the checks from here on hold. */
    static void sentence(String words) {
        endSentence();
        sentence = words;
        checksOfSentence = 0;
        sentences++;
        name(words);
    }

    /** The like, of a promise of which not each word is named here. */
    static void sentenceOf(int promise, String words) {
        endSection();
        String name = "## Promise " + promise + ":";
        int start = document.indexOf(name), end = document.indexOf("\n## ", Math.max(0, start));
        boolean there = start >= 0 && end >= 0 && plain(document.substring(start + name.length(), end)).contains(words);
        if (!document.isEmpty() && !there) fault(name + " does not say: " + words);
        sentence(words);
    }

    /** A sentence of the section that tells no boundary. */
    static void noBoundary(String words) {
        endSentence();
        name(words);
    }

    private static void name(String words) {
        if (section.isEmpty()) return;
        int at = section.indexOf(words);
        if (at < 0) fault(sectionName + " does not say: " + words);
        for (int i = 0; at >= 0 && i < words.length(); i++) named[at + i] = true;
    }

    private static void endSentence() {
        if (checksOfSentence == 0) fault("nothing checks the sentence: " + sentence);
        checksOfSentence = 1;
    }

    private static void fault(String what) {
        wrong++;
        System.out.println(what);
    }

    static void end() {
        endSection();
        System.out.println(sentences + " sentences, " + checks + " checks, " + wrong + " wrong");
        if (wrong != 0 || checks == 0) System.exit(1);
    }

    // ---- checks

    static void due(String call, long got, long want) {
        checks++;
        checksOfSentence++;
        if (got != want) fault("\"" + sentence + "\": " + call + " answered " + got + ", due is " + want);
    }

    /** What is due of two calls, above and below. */
    static void due(String call, long above, long below, long wantAbove, long wantBelow) {
        due(call + ", above", above, wantAbove);
        due(call + ", below", below, wantBelow);
    }

    /** The least and the most are taken; the numbers next to them and the farthest ones are refused. */
    static void dueTaken(String call, int least, int most, long refusal, NumberAct act) {
        for (int v : new int[] {least, most}) due(call + " with " + v + " is refused", act.on(v) == refusal ? 1 : 0, 0);
        for (int v : new int[] {least - 1, most + 1, LEAST_INT, MOST_INT}) due(call + " with " + v, act.on(v), refusal);
    }

    /** The least is taken, and so is every greater one. */
    static void dueTakenFrom(String call, int least, long refusal, NumberAct act) {
        for (int v : new int[] {least, MOST_INT}) due(call + " with " + v + " is refused", act.on(v) == refusal ? 1 : 0, 0);
        for (int v : new int[] {least - 1, LEAST_INT}) due(call + " with " + v, act.on(v), refusal);
    }

    static void dueFault(String text, int want, int... sizes) {
        WordsKnown x = with(text, sizes);
        due("fault() of '" + text + "' with " + sizes.length + " bands", x.fault(), want);
    }

    static void dueShare(WordsKnown x, int taker, int band, int which, long above, long below) {
        due("share(" + taker + ", " + band + ", " + which + ")", x.share(taker, band, which, 0), x.share(taker, band, which, 1), above, below);
    }

    static void dueKnows(WordsKnown x, int taker, int which, long above, long below) {
        due("knows(" + taker + ", " + which + ")", x.knows(taker, which, 0), x.knows(taker, which, 1), above, below);
    }

    static void dueCover(WordsKnown x, int taker, int book, long above, long below) {
        due("cover(" + taker + ", " + book + ")", x.cover(taker, book, 0), x.cover(taker, book, 1), above, below);
    }

    static void dueAlike(WordsKnown x, int a, int b, long above, long below) {
        due("alike(" + a + ", " + b + ")", x.alike(a, b, 0), x.alike(a, b, 1), above, below);
    }

    static void dueAsked(WordsKnown x, int taker, int band, int asked, int yeses) {
        due("asked(" + taker + ", " + band + ", 0)", x.asked(taker, band, 0), asked);
        due("asked(" + taker + ", " + band + ", 1)", x.asked(taker, band, 1), yeses);
    }

    static void duePairs(WordsKnown x, int a, int b, int... counts) {
        for (int what = 0; what < 4; what++) due("pair(" + a + ", " + b + ", " + what + ")", x.pair(a, b, what), counts[what]);
    }

    static void dueLearnt(WordsKnown x, int taker, int from, int to, int... counts) {
        for (int what = 0; what < 3; what++) {
            due("learnt(" + taker + ", " + from + ", " + to + ", " + what + ")", x.learnt(taker, from, to, what), counts[what]);
        }
    }

    /** How many books the ladder of taker 0 has, and which, in order. */
    static void dueLadder(WordsKnown x, int p, int m, int... order) {
        String call = "ladder(0, " + p + ", " + m + ", ";
        due(call + "NONE)", x.ladder(0, p, m, NONE), order.length);
        for (int i = 0; i < order.length; i++) due(call + i + ")", x.ladder(0, p, m, i), order[i]);
        due(call + "just beyond)", x.ladder(0, p, m, order.length), NONE);
    }

    static void dueItems(WordsKnown x, int s, int form, int... items) {
        for (int i = 0; i < items.length; i++) due("get(" + s + ", " + form + ", " + i + ")", x.get(s, form, i), items[i]);
    }

    // ---- objects

    static void type(WordsKnown x, String text) {
        for (int i = 0; i < text.length(); i++) x.type(text.charAt(i));
    }

    static WordsKnown with(String text, int... sizes) {
        WordsKnown x = new WordsKnown();
        for (int size : sizes) x.band(size);
        type(x, text);
        return x;
    }

    /** Answers of words 0 on: 1 known, 0 not, - taken back, a blank: nothing told. */
    static void tell(WordsKnown x, int taker, String says, int time) {
        for (int i = 0; i < says.length(); i++) {
            char c = says.charAt(i);
            if (c != ' ') x.answer(taker, i, c == '-' ? -1 : c - '0', time);
        }
    }

    static void tell(WordsKnown x, int taker, String says) {
        tell(x, taker, says, 0);
    }

    /** With a list and what taker 0 says of its words. */
    static WordsKnown told(String text, String says, int... sizes) {
        WordsKnown x = with(text, sizes);
        tell(x, 0, says);
        return x;
    }

    static void book(WordsKnown x, int... running) {
        int book = x.book();
        for (int band = 0; band < running.length; band++) x.run(book, band, running[band]);
    }

    static void lay(WordsKnown x, int s, int form, int... items) {
        x.sheet(s, form, items.length);
        for (int i = 0; i < items.length; i++) x.lay(s, form, i, items[i]);
    }

    /** Six bands, six books, 40 words, all takers asked of all bands, every sheet there. */
    static WordsKnown rich() {
        WordsKnown x = with("0*2;1;2;3;4;5;f*2", 10, 20, 30, 40, 50, 60);
        for (int i = 0; i < 6; i++) book(x, 1, 2, 3, 4, 5, i);
        for (int taker = 0; taker < 4; taker++) tell(x, taker, "101010110");
        for (int s = 0; s < 4; s++) x.sheet(s, 0, 3);
        return x;
    }

    /** 6 bands, 6 books, 40 words, 120 answers at time 7 (of the takers 0 to 2, each with yes), sheets of 60 items. */
    static WordsKnown fullOfWords() {
        WordsKnown x = with("0*9;0*9;1*9;2*9;f*4", 99, 98, 97, 96, 95, 94);
        for (int i = 0; i < 6; i++) book(x, 99, 99, 99, 99, 99, 99);
        for (int s = 0; s < 4; s++) x.sheet(s, 2, 60);
        for (int i = 0; i < 40; i++) x.lay(0, 2, i, 1);
        for (int taker = 0; taker < 3; taker++) x.read(0, taker, 7);
        return x;
    }

    /** The like with 80 bytes; a list of so many always has a fault, so no words are there. */
    static WordsKnown full() {
        WordsKnown x = fullOfWords();
        for (int i = 19; i < 80; i++) x.type(';');
        return x;
    }
}
