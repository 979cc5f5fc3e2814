import java.math.BigInteger;
import java.util.ArrayList;
import java.util.List;

// Each sentence of promises 1 to 33 has a test of its own, that names it: the numbers that are still taken and
// those that are not, what is NONE, what is NOT, what is FULL.
public final class PromiseBoundaries extends Checks {

    private static void promise(int number) {
        section("## Promise " + number + ":", number == 33 ? "## Not promised" : "## Promise " + (number + 1) + ":");
    }

    private static void newObject() {
        promise(1);
        sentence("No BANDS, no BOOKS, nobody asked;");
        WordsKnown x = new WordsKnown();
        for (int what = 0; what <= 8; what++) due("count(" + what + ")", x.count(what), what == 7 ? 999 : 0);
        due("run(0, 0, 0)", x.run(0, 0, 0), BAD);
        due("deal(0, 0)", x.deal(0, 0), BAD);
        for (int taker = 0; taker < 4; taker++) {
            dueAsked(x, taker, NONE, 0, 0);
            due("asked of a BAND", x.asked(taker, 0, 0), BAD);
            due("easiest", x.easiest(taker), NONE);
            due("next", x.next(taker), NONE);
            due("ladder", x.ladder(taker, 0, 1, NONE), 0);
        }
        for (int word = 0; word < 40; word++) due("word(" + word + ")", x.word(word), NONE);
        due("fault()", x.fault(), NONE);
        due("learnt", x.learnt(0, 0, 999, 2), 0);
        due("the first wipe()", x.wipe(), 0);
        due("the first asOf(0)", x.asOf(0), 999);

        sentence("all SHEETS are LOST.");
        for (int s = 0; s < 4; s++) {
            x = new WordsKnown();
            due("lose(" + s + ")", x.lose(s), NULL);
            due("write(0, " + s + ")", x.write(0, s), NULL);
            due("read(" + s + ", 0, 0)", x.read(s, 0, 0), NULL);
            due("copy(" + s + ", 0, " + s + ", 0, 0)", x.copy(s, 0, s, 0, 0), NULL);
        }
    }

    private static void bandAndBook() {
        promise(2);
        sentence("A BAND more: its number.");
        WordsKnown x = new WordsKnown();
        for (int i = 0; i < 6; i++) {
            due("band(" + (i + 1) + ")", x.band(i + 1), i);
            due("count(0)", x.count(0), i + 1);
            due("count(6)", x.count(6), (i + 1) * (i + 2) / 2);
        }
        sentence("BAD;");
        dueTaken("band", 1, 99, BAD, v -> new WordsKnown().band(v));
        dueTaken("band as the sixth", 1, 99, BAD, v -> with("", 9, 9, 9, 9, 9).band(v));
        sentence("FULL.");
        due("band(1) as the sixth", with("", 9, 9, 9, 9, 9).band(1), 5);
        due("band(1) as the seventh", x.band(1), FULL);
        due("band(99) as the seventh", x.band(99), FULL);

        promise(3);
        sentence("A BOOK more: its number.");
        x = new WordsKnown();
        for (int i = 0; i < 6; i++) {
            due("book()", x.book(), i);
            due("count(1)", x.count(1), i + 1);
        }
        sentence("FULL.");
        due("book() as the seventh", x.book(), FULL);
        due("book() as the eighth", x.book(), FULL);
        due("count(1)", x.count(1), 6);
    }

    private static WordsKnown twoBooks() {
        WordsKnown x = new WordsKnown();
        x.book();
        x.book();
        return x;
    }

    private static void run() {
        promise(4);
        sentence("RUNNING words of a BAND (0 to 5, whether it is there or not) in a BOOK: how many there were.");
        WordsKnown x = twoBooks();
        for (int band = 0; band < 6; band++) {
            due("run of BAND " + band + ", not there", x.run(1, band, 10 + band), 0);
            due("run of it again", x.run(1, band, 99), 10 + band);
            due("run of it again", x.run(1, band, 0), 99);
            due("run of it again", x.run(1, band, 20 + band), 0);
        }
        for (int i = 0; i < 6; i++) x.band(9);
        for (int band = 0; band < 6; band++) {
            due("run of BAND " + band + ", there", x.run(1, band, 0), 20 + band);
            due("run of the other BOOK", x.run(0, band, 0), 0);
        }
        sentence("BAD.");
        due("run without BOOKS", new WordsKnown().run(0, 0, 0), BAD);
        dueTaken("BOOK of run", 0, 1, BAD, v -> twoBooks().run(v, 0, 0));
        dueTaken("BOOK of run, all there", 0, 5, BAD, v -> full().run(v, 0, 0));
        dueTaken("BAND of run", 0, 5, BAD, v -> twoBooks().run(0, v, 0));
        dueTaken("v of run", 0, 99, BAD, v -> twoBooks().run(0, 0, v));
    }

    private static void list() {
        promise(5);
        sentence("A byte (0 to 255) comes behind THE LIST: how many.");
        for (int b : new int[] {0, 1, 127, 128, 254, 255}) {
            WordsKnown x = with("f");
            due("type(" + b + ")", x.type(b), 2);
            due("fault() behind it", x.fault(), 1);
        }
        WordsKnown order = with("f*3");
        due("count(3) of f*3", order.count(3), 3);
        due("type(';')", order.type(';'), 4);
        due("type('f')", order.type('f'), 5);
        due("count(3) of f*3;f", order.count(3), 4);
        sentence("BAD;");
        dueTaken("type", 0, 255, BAD, v -> new WordsKnown().type(v));
        // 358 is 'f' and 256
        due("type(358)", new WordsKnown().type(358), BAD);
        sentence("FULL.");
        WordsKnown x = new WordsKnown();
        for (int i = 1; i <= 79; i++) x.type('f');
        due("type('f') as the 80th", x.type('f'), 80);
        due("type('f') as the 81st", x.type('f'), FULL);
        due("type('f') as the 82nd", x.type('f'), FULL);
        due("count(2)", x.count(2), 80);

        promise(6);
        sentence("THE LIST is empty: how many bytes it had.");
        due("wipe() of 80", x.wipe(), 80);
        due("count(2)", x.count(2), 0);
        due("wipe() of none", x.wipe(), 0);
        due("fault()", x.fault(), NONE);
        x = told("0*3", "110", 9);
        due("wipe() of 3", x.wipe(), 3);
        due("count(3)", x.count(3), 0);
        dueAsked(x, 0, 0, 0, 0);
        type(x, "0*2");
        dueAsked(x, 0, 0, 2, 2);
        // nothing of what it had is left behind the new bytes
        x = with("f*9;f*9");
        x.wipe();
        int[][] anew = {{'f', NONE, 1}, {'*', 2, 0}, {'2', NONE, 2}, {';', 4, 0}, {'f', NONE, 3}, {'*', 6, 0}, {'3', NONE, 5}};
        for (int[] r : anew) {
            x.type(r[0]);
            due("fault() of the new list", x.fault(), r[1]);
            due("count(3) of the new list", x.count(3), r[2]);
        }
    }

    private static void faultAndWord() {
        promise(7);
        sentence("The FAULT; NONE.");
        dueFault("", NONE);
        dueFault("f", NONE);
        dueFault("x", 0);
        dueFault("f;", 2);
        dueFault("f;".repeat(40), 80);
        dueFault("f;".repeat(39) + "f", NONE);

        promise(8);
        sentence("The BAND of a WORD's number (0 to 39); 6: it is FALSE; NONE: it is not there.");
        WordsKnown x = with("f;0;1;2;3;4;5", 9, 9, 9, 9, 9, 9);
        int[] kinds = {6, 0, 1, 2, 3, 4, 5, NONE};
        for (int word = 0; word < kinds.length; word++) due("word(" + word + ")", x.word(word), kinds[word]);
        due("word(39)", x.word(39), NONE);
        x = with("0*9;0*9;0*9;0*9;f*3;0", 9);
        due("word(0), full", x.word(0), 0);
        due("word(38), full", x.word(38), 6);
        due("word(39), full", x.word(39), 0);
        type(x, ";");
        due("word(0) with a FAULT", x.word(0), NONE);
        due("word(39) with a FAULT", x.word(39), NONE);
        sentence("BAD.");
        dueTaken("word, none there", 0, 39, BAD, v -> new WordsKnown().word(v));
        dueTaken("word, all there", 0, 39, BAD, v -> fullOfWords().word(v));
    }

    private static WordsKnown last(int time) {
        WordsKnown x = with("0*9;0*9;0*9;0*9;0*4", 99);
        x.answer(1, 1, 1, time);
        return x;
    }

    private static void answer() {
        promise(9);
        sentence("An ANSWER more: how many.");
        WordsKnown x = with("0*2", 9);
        due("answer of a WORD", x.answer(0, 0, 1, 0), 1);
        due("answer of it again", x.answer(0, 0, 1, 0), 2);
        due("answer that takes back", x.answer(0, 0, -1, 0), 3);
        due("answer that takes back what was not told", x.answer(3, 39, -1, 0), 4);
        due("answer of a WORD that is not there", x.answer(3, 39, 0, 0), 5);
        due("count(4)", x.count(4), 5);
        dueAsked(x, 0, 0, 0, 0);
        sentence("BAD: also a TIME less than the one before;");
        dueTaken("TAKER of answer", 0, 3, BAD, v -> last(5).answer(v, 0, 0, 5));
        dueTaken("WORD of answer", 0, 39, BAD, v -> last(5).answer(0, v, 0, 5));
        dueTaken("says of answer", -1, 1, BAD, v -> last(5).answer(0, 0, v, 5));
        dueTaken("TIME of answer", 5, 999, BAD, v -> last(5).answer(0, 0, 0, v));
        dueTaken("TIME of answer, none before", 0, 999, BAD, v -> new WordsKnown().answer(0, 0, 0, v));
        dueTaken("TIME of answer behind 0", 0, 999, BAD, v -> last(0).answer(0, 0, 0, v));
        dueTaken("TIME of answer behind 999", 999, 999, BAD, v -> last(999).answer(0, 0, 0, v));
        x = last(5);
        x.asOf(3);
        due("answer at 4 as of 3", x.answer(1, 1, 0, 4), BAD);
        sentence("FULL.");
        x = fullOfWords();
        due("answer as the 121st", x.answer(0, 0, 0, 7), FULL);
        due("answer as the 121st of nobody yet", x.answer(3, 39, 1, 999), FULL);
        due("count(4)", x.count(4), 120);
        dueAsked(x, 0, 0, 18, 18);
        x = new WordsKnown();
        for (int i = 1; i < 120; i++) x.answer(0, 0, 0, 0);
        due("answer as the 120th", x.answer(0, 0, 0, 0), 120);
        due("answer as the 121st", x.answer(0, 0, 0, 0), FULL);
    }

    private static void dueRead(int want, int form, int... items) {
        WordsKnown x = with("0*9;0*9", 99);
        lay(x, 0, form, items);
        due("read of " + items.length + " items of FORM " + form, x.read(0, 0, 5), want);
        due("count(4) after it", x.count(4), want);
    }

    private static void read() {
        promise(10);
        sentence("ANSWERS of a TAKER at a TIME by a SHEET: its items are of WORDS 0 on, item by item");
        WordsKnown x = told("0*3", "111", 9);
        lay(x, 3, 1, 0, -1, 1);
        x.asOf(4);
        due("read(3, 0, 5)", x.read(3, 0, 5), 3);
        dueAsked(x, 0, 0, 3, 3);
        x.asOf(5);
        dueAsked(x, 0, 0, 2, 1);
        dueAsked(x, 1, 0, 0, 0);
        dueLearnt(x, 0, 4, 5, 0, 1, 1);
        due("count(4)", x.count(4), 6);

        sentence("as long as each may be and there is room: how many came.");
        dueRead(0, 2);
        for (int form = 0; form < 3; form++) {
            dueRead(3, form, -1, 0, 1);
            dueRead(0, form, 2, 1, 1);
            dueRead(0, form, -2, 1, 1);
            dueRead(1, form, 1, 2, 1);
            dueRead(2, form, 1, 1, -2, 1);
        }
        dueRead(0, 2, MOST_INT, 1);
        dueRead(1, 2, 1, LEAST_INT);
        for (int n : new int[] {39, 40, 41, 60}) {
            x = new WordsKnown();
            x.sheet(0, 0, n);
            due("read of " + n + " items", x.read(0, 0, 0), Math.min(n, 40));
        }
        x = last(0);
        x.sheet(0, 0, 60);
        x.read(0, 2, 0);
        x.read(0, 0, 0);
        due("count(4)", x.count(4), 81);
        due("read with room for 39", x.read(0, 3, 0), 39);
        dueAsked(x, 3, 0, 39, 0);
        due("read without room", x.read(0, 0, 0), 0);
        due("count(4)", x.count(4), 120);
        x = last(5);
        x.sheet(0, 0, 0);
        due("read of no items", x.read(0, 0, 9), 0);
        due("answer at a TIME ahead of it, as nothing came", x.answer(0, 0, 1, 5), 2);

        sentence("BAD: likewise; NULL.");
        dueTaken("SHEET of read", 0, 3, BAD, v -> rich().read(v, 0, 0));
        dueTaken("TAKER of read", 0, 3, BAD, v -> rich().read(0, v, 0));
        dueTaken("TIME of read", 5, 999, BAD, v -> sheetAt5().read(0, 0, v));
        dueTaken("TIME of read, none before", 0, 999, BAD, v -> lay1().read(0, 0, v));
        x = sheetAt5();
        due("read at 6", x.read(0, 0, 6), 1);
        due("read at 5 behind it", x.read(0, 0, 5), BAD);
        due("answer at 5 behind it", x.answer(0, 0, 0, 5), BAD);
        due("read of a LOST one", x.read(1, 0, 6), NULL);
        due("count(8)", x.count(8), 1);
        due("read of a LOST one, full", lost0(full()).read(0, 0, 7), NULL);
    }

    private static WordsKnown sheetAt5() {
        WordsKnown x = last(5);
        x.sheet(0, 0, 1);
        return x;
    }

    private static WordsKnown lay1() {
        WordsKnown x = new WordsKnown();
        x.sheet(0, 0, 1);
        return x;
    }

    private static WordsKnown lost0(WordsKnown x) {
        x.lose(0);
        return x;
    }

    private static void asOfAndAsked() {
        promise(11);
        sentence("AS OF: what it was.");
        WordsKnown x = with("0", 9);
        due("asOf(0)", x.asOf(0), 999);
        due("asOf(999)", x.asOf(999), 0);
        due("asOf(7)", x.asOf(7), 999);
        due("asOf(7)", x.asOf(7), 7);
        due("count(7)", x.count(7), 7);
        x.answer(0, 0, 1, 7);
        dueAsked(x, 0, 0, 1, 1);
        x.asOf(6);
        dueAsked(x, 0, 0, 0, 0);
        sentence("BAD.");
        dueTaken("asOf", 0, 999, BAD, v -> new WordsKnown().asOf(v));

        promise(12);
        sentence("ASKED (what = 0), YESES (1) of a BAND (NONE: FALSE ones).");
        x = told("0*3;f*2;5", "110100", 9, 9, 9, 9, 9, 9);
        dueAsked(x, 0, 0, 3, 2);
        dueAsked(x, 0, NONE, 2, 1);
        dueAsked(x, 0, 5, 1, 0);
        dueAsked(x, 0, 4, 0, 0);
        dueAsked(x, 3, 0, 0, 0);
        sentence("BAD.");
        dueTaken("TAKER of asked", 0, 3, BAD, v -> rich().asked(v, 0, 0));
        dueTaken("BAND of asked, six there", NONE, 5, BAD, v -> rich().asked(0, v, 0));
        dueTaken("BAND of asked, one there", NONE, 0, BAD, v -> with("", 9).asked(0, v, 0));
        dueTaken("BAND of asked, none there", NONE, NONE, BAD, v -> new WordsKnown().asked(0, v, 0));
        dueTaken("what of asked", 0, 1, BAD, v -> rich().asked(0, 0, v));
    }

    private static void share() {
        promise(13);
        sentence("PLAIN (which = 0), TRUE (1): above, below.");
        WordsKnown x = told("0*3;f*2", "11010", 9);
        dueShare(x, 0, 0, 0, 2, 3);
        dueShare(x, 0, 0, 1, 1, 3);
        sentence("BAD;");
        dueTaken("TAKER of share", 0, 3, LONG_BAD, v -> rich().share(v, 0, 0, 0));
        dueTaken("BAND of share, six there", 0, 5, LONG_BAD, v -> rich().share(0, v, 0, 0));
        dueTaken("BAND of share, one there", 0, 0, LONG_BAD, v -> with("", 9).share(0, v, 0, 0));
        due("share of no BAND", new WordsKnown().share(0, 0, 0, 0), LONG_BAD);
        dueTaken("which of share", 0, 1, LONG_BAD, v -> rich().share(0, 0, v, 0));
        dueTaken("what of share", 0, 1, LONG_BAD, v -> rich().share(0, 0, 0, v));
        sentence("NOT.");
        x = with("0*2;f*2", 9);
        for (int k = 0; k < 4; k++) due("share, none ASKED", x.share(0, 0, k / 2, k % 2), LONG_NOT);
        tell(x, 0, "1011");
        dueShare(x, 0, 0, 0, 1, 2);
        for (int what = 0; what < 2; what++) due("share, TRUE with GUESS 1", x.share(0, 0, 1, what), LONG_NOT);
        tell(x, 0, "   0");
        dueShare(x, 0, 0, 1, 0, 1);
        sentence("(As the least long and x more.)");
        due("share, BAD", x.share(0, 1, 0, 0), -9223372036854775806L);
        due("share, NOT", x.share(1, 0, 0, 0), -9223372036854775805L);
    }

    private static void knows() {
        promise(14);
        sentence("GUESS (which = 0), KNOWS (1): above, below.");
        WordsKnown x = told("0*3;f*3", "110100", 9);
        dueKnows(x, 0, 0, 1, 3);
        dueKnows(x, 0, 1, 9, 2);
        dueKnows(x, 1, 0, 0, 1);
        sentence("BAD;");
        dueTaken("TAKER of knows", 0, 3, LONG_BAD, v -> rich().knows(v, 0, 0));
        dueTaken("which of knows", 0, 1, LONG_BAD, v -> rich().knows(0, v, 0));
        dueTaken("what of knows", 0, 1, LONG_BAD, v -> rich().knows(0, 1, v));
        sentence("NOT (1).");
        x = told("0*3;f*3", "   100", 9);
        dueKnows(x, 0, 0, 1, 3);
        for (int what = 0; what < 2; what++) due("knows, none ASKED", x.knows(0, 1, what), LONG_NOT);
        tell(x, 0, "0");
        dueKnows(x, 0, 1, 0, 1);
        tell(x, 0, "   111");
        dueKnows(x, 0, 0, 1, 1);
        for (int what = 0; what < 2; what++) due("knows with GUESS 1", x.knows(0, 1, what), LONG_NOT);
        sentence("(As the least long and x more.)");
        due("knows, BAD", x.knows(4, 0, 0), -9223372036854775806L);
        due("knows, NOT", x.knows(0, 1, 0), -9223372036854775805L);
    }

    /** Three of a band of 9 asked, two of them with yes; of band 1, of SIZE 2, three; of band 2 nine. */
    private static WordsKnown forMay() {
        return told("0*3;1*3;2*9", "110111101010101", 9, 2, 20, 5);
    }

    private static void mayAndLikeliest() {
        promise(15);
        sentence("MAY: the least (end = 0), the greatest (1); NONE.");
        WordsKnown x = forMay();
        due("may, the least", x.may(0, 0, 0, 0), 2);
        due("may, the greatest", x.may(0, 0, 0, 1), 8);
        // with 8 of 9 known, two of three are known however they are drawn
        due("may, the least, x 255", x.may(0, 0, 255, 0), 8);
        due("may, the greatest, x 255", x.may(0, 0, 255, 1), 2);
        sentence("BAD;");
        dueTaken("TAKER of may", 0, 3, BAD, v -> rich().may(v, 0, 0, 0));
        dueTaken("BAND of may, six there", 0, 5, BAD, v -> rich().may(0, v, 0, 0));
        dueTaken("BAND of may, four there", 0, 3, BAD, v -> forMay().may(0, v, 0, 0));
        due("may of no BAND", new WordsKnown().may(0, 0, 0, 0), BAD);
        dueTaken("x of may", 0, 255, BAD, v -> forMay().may(0, 0, v, 0));
        dueTaken("end of may", 0, 1, BAD, v -> forMay().may(0, 0, 0, v));
        sentence("NOT: none ASKED;");
        due("may, none ASKED", x.may(0, 3, 0, 0), NOT);
        due("may, none ASKED of another TAKER", x.may(1, 0, 0, 1), NOT);
        due("may, one ASKED", told("0", "0", 9).may(0, 0, 0, 0), 0);
        due("may, one taken back", told("0", "-", 9).may(0, 0, 0, 0), NOT);
        sentence("FULL.");
        due("may, 9 ASKED", x.may(0, 2, 0, 0), FULL);
        tell(x, 0, "              -");
        due("may, 8 ASKED", x.may(0, 2, 0, 0), 4);
        due("may, 3 ASKED of SIZE 2", x.may(0, 1, 0, 1), FULL);
        tell(x, 0, "   -");
        due("may, 2 ASKED of SIZE 2", x.may(0, 1, 0, 1), 2);

        promise(16);
        sentence("LIKELIEST.");
        x = told("0*3;1*3;2*6", "110111101010", 9, 2, 20, 5);
        due("likeliest, 2 of 3 with yes", x.likeliest(0, 0, 0), 6);
        due("likeliest, nearly all guessed", x.likeliest(0, 0, 15), 0);
        sentence("BAD;");
        dueTaken("TAKER of likeliest", 0, 3, BAD, v -> rich().likeliest(v, 0, 0));
        dueTaken("BAND of likeliest, six there", 0, 5, BAD, v -> rich().likeliest(0, v, 0));
        dueTaken("BAND of likeliest, four there", 0, 3, BAD, v -> forMay().likeliest(0, v, 0));
        due("likeliest of no BAND", new WordsKnown().likeliest(0, 0, 0), BAD);
        dueTaken("g of likeliest", 0, 15, BAD, v -> forMay().likeliest(0, 0, v));
        sentence("NOT: none ASKED;");
        due("likeliest, none ASKED", x.likeliest(0, 3, 0), NOT);
        due("likeliest, none ASKED of another TAKER", x.likeliest(2, 0, 0), NOT);
        due("likeliest, one ASKED", told("0", "0", 9).likeliest(0, 0, 0), 0);
        sentence("FULL.");
        due("likeliest, 6 ASKED", x.likeliest(0, 2, 0), FULL);
        tell(x, 0, "           -");
        due("likeliest, 5 ASKED", x.likeliest(0, 2, 0), 12);
        due("likeliest, 3 ASKED of SIZE 2", x.likeliest(0, 1, 0), FULL);
        tell(x, 0, "   -");
        due("likeliest, 2 ASKED of SIZE 2", x.likeliest(0, 1, 0), 2);
    }

    private static void coverAndEasiest() {
        promise(17);
        sentence("COVER: above, below.");
        WordsKnown x = told("0*3;f", "1100", 9);
        book(x, 10, 10);
        dueCover(x, 0, 0, 1, 3);
        dueCover(x, 3, 0, 0, 1);
        sentence("BAD;");
        dueTaken("TAKER of cover", 0, 3, LONG_BAD, v -> rich().cover(v, 0, 0));
        dueTaken("BOOK of cover, six there", 0, 5, LONG_BAD, v -> rich().cover(0, v, 0));
        dueTaken("BOOK of cover, two there", 0, 1, LONG_BAD, v -> twoBooks().cover(0, v, 0));
        due("cover of no BOOK", new WordsKnown().cover(0, 0, 0), LONG_BAD);
        dueTaken("what of cover", 0, 1, LONG_BAD, v -> rich().cover(0, 0, v));
        sentence("NOT.");
        x.book();
        due("cover without words", x.cover(0, 1, 0), LONG_NOT);
        tell(x, 0, "   1");
        due("cover with GUESS 1", x.cover(0, 0, 1), LONG_NOT);
        sentence("(As the least long and x more.)");
        due("cover, BAD", x.cover(0, 2, 0), -9223372036854775806L);
        due("cover, NOT", x.cover(0, 0, 0), -9223372036854775805L);

        promise(18);
        sentence("EASIEST; NONE.");
        x = new WordsKnown();
        due("easiest without BOOKS", x.easiest(0), NONE);
        book(x);
        due("easiest, a BOOK without words", x.easiest(0), NONE);
        book(x, 0, 0, 0, 0, 0, 1);
        due("easiest, a BOOK with one word", x.easiest(0), 1);
        type(x, "f");
        tell(x, 0, "1");
        due("easiest with GUESS 1", x.easiest(0), NONE);
        sentence("BAD.");
        dueTaken("easiest", 0, 3, BAD, v -> rich().easiest(v));
        dueTaken("easiest without BOOKS", 0, 3, BAD, v -> new WordsKnown().easiest(v));
    }

    private static void ladder() {
        promise(19);
        sentence("LADDER: how many BOOKS (i = NONE), the i-th (0 on; NONE beyond).");
        WordsKnown x = told("0;f", "10", 9);
        dueLadder(x, 0, 1);
        for (int i = 0; i < 6; i++) book(x, i, 1);
        dueLadder(x, 0, 1, 5, 4, 3, 2, 1, 0);
        dueLadder(x, 100, 1);
        due("ladder, far beyond", x.ladder(0, 0, 1, MOST_INT), NONE);
        sentence("BAD: also i below NONE;");
        dueTaken("TAKER of ladder", 0, 3, BAD, v -> rich().ladder(v, 0, 1, NONE));
        dueTaken("p of ladder", 0, 100, BAD, v -> rich().ladder(0, v, 1, NONE));
        dueTaken("m of ladder", 1, 9, BAD, v -> rich().ladder(0, 0, v, NONE));
        dueTakenFrom("i of ladder", NONE, BAD, v -> rich().ladder(0, 0, 1, v));
        sentence("NOT: GUESS is 1.");
        tell(x, 0, " 1");
        due("ladder with GUESS 1, how many", x.ladder(0, 0, 1, NONE), NOT);
        due("ladder with GUESS 1, the first", x.ladder(0, 0, 1, 0), NOT);
        due("ladder with GUESS 1, beyond", x.ladder(0, 100, 9, MOST_INT), NOT);
        due("ladder of another", x.ladder(1, 0, 1, NONE), 6);
        due("ladder with GUESS 1, no BOOKS", told("f", "1").ladder(0, 0, 1, NONE), NOT);
        due("ladder with GUESS 1 by 2", told("f*2", "10").ladder(0, 0, 1, NONE), 0);
    }

    private static void nextAndDeal() {
        promise(20);
        sentence("NEXT; NONE.");
        due("next without BANDS", new WordsKnown().next(0), NONE);
        due("next with one", with("", 1).next(0), 0);
        due("next with six", with("", 1, 1, 1, 1, 1, 2).next(3), 5);
        sentence("BAD.");
        dueTaken("next", 0, 3, BAD, v -> rich().next(v));
        dueTaken("next without BANDS", 0, 3, BAD, v -> new WordsKnown().next(v));

        promise(21);
        sentence("DEAL: how many questions a BAND gets.");
        WordsKnown x = with("", 10, 20);
        due("deal(0, 0)", x.deal(0, 0), 0);
        due("deal(1, 0)", x.deal(1, 0), 0);
        due("deal(1, 1)", x.deal(1, 1), 1);
        due("deal(2, 0)", x.deal(2, 0), 1);
        due("deal(99, 0)", x.deal(99, 0), 33);
        due("deal(99, 1)", x.deal(99, 1), 66);
        sentence("BAD.");
        dueTaken("n of deal", 0, 99, BAD, v -> rich().deal(v, 0));
        dueTaken("BAND of deal, six there", 0, 5, BAD, v -> rich().deal(0, v));
        dueTaken("BAND of deal, two there", 0, 1, BAD, v -> with("", 10, 20).deal(0, v));
        due("deal of no BAND", new WordsKnown().deal(0, 0), BAD);
        due("deal of the FALSE ones", x.deal(0, NONE), BAD);
    }

    private static void pairAndAlike() {
        promise(22);
        sentence("BOTH (what = 0), the first ALONE (1), the second (2), NEITHER (3).");
        WordsKnown x = told("0*9;f", "1111111000", 99);
        tell(x, 3, "1111000110");
        duePairs(x, 0, 3, 4, 3, 2, 0);
        duePairs(x, 3, 0, 4, 2, 3, 0);
        tell(x, 3, "       00");
        duePairs(x, 0, 3, 4, 3, 0, 2);
        duePairs(x, 1, 2, 0, 0, 0, 0);
        sentence("BAD: also one with itself.");
        for (int taker = 0; taker < 4; taker++) due("pair of " + taker + " with itself", rich().pair(taker, taker, 0), BAD);
        dueTaken("the first of pair", 0, 2, BAD, v -> rich().pair(v, v < 3 ? 3 : 0, v == 3 ? 4 : 0));
        dueTaken("the first of pair", 1, 3, BAD, v -> rich().pair(v, 0, 0));
        dueTaken("the second of pair", 1, 3, BAD, v -> rich().pair(0, v, 0));
        dueTaken("what of pair", 0, 3, BAD, v -> rich().pair(0, 1, v));

        promise(23);
        sentence("ALIKE: above, below.");
        dueAlike(x, 0, 3, 2, 3);
        dueAlike(x, 3, 0, 2, 3);
        sentence("BAD: likewise;");
        for (int taker = 0; taker < 4; taker++) due("alike of " + taker + " with itself", rich().alike(taker, taker, 0), LONG_BAD);
        dueTaken("the first of alike", 1, 3, LONG_BAD, v -> rich().alike(v, 0, 0));
        dueTaken("the second of alike", 1, 3, LONG_BAD, v -> rich().alike(0, v, 0));
        dueTaken("what of alike", 0, 1, LONG_BAD, v -> rich().alike(0, 1, v));
        sentence("NOT: no such WORDS.");
        for (int what = 0; what < 2; what++) due("alike, the one not asked", x.alike(0, 1, what), LONG_NOT);
        due("alike without a list", new WordsKnown().alike(0, 1, 0), LONG_NOT);
        x = told("0*2;f", "1 1", 9);
        tell(x, 1, " 11");
        due("alike, none that both answered but the FALSE one", x.alike(0, 1, 0), LONG_NOT);
        tell(x, 1, "0");
        dueAlike(x, 0, 1, 0, 1);
        sentence("(As the least long and x more.)");
        due("alike, BAD", x.alike(0, 4, 0), -9223372036854775806L);
        due("alike, NOT", x.alike(0, 3, 0), -9223372036854775805L);
    }

    /** Taker 0 knows so many words that taker 1 does not. */
    private static WordsKnown ahead(int words) {
        WordsKnown x = with("0*9;0*9;0*9;0*9;0*4", 99);
        tell(x, 0, "1".repeat(words));
        tell(x, 1, "0".repeat(words));
        return x;
    }

    private static void betterAndLearnt() {
        promise(24);
        sentence("BETTER.");
        due("better of 0", ahead(0).better(0, 1), 1000000);
        due("better of 1", ahead(1).better(0, 1), 1000000);
        due("better of 2", ahead(2).better(1, 0), 500000);
        due("better of 3", ahead(3).better(0, 1), 250000);
        sentence("BAD: likewise;");
        for (int taker = 0; taker < 4; taker++) due("better of " + taker + " with itself", rich().better(taker, taker), BAD);
        dueTaken("the first of better", 1, 3, BAD, v -> rich().better(v, 0));
        dueTaken("the second of better", 1, 3, BAD, v -> rich().better(0, v));
        sentence("FULL.");
        due("better of 24", ahead(24).better(0, 1), 0);
        due("better of 25", ahead(25).better(0, 1), FULL);
        due("better of 40", ahead(40).better(1, 0), FULL);

        promise(25);
        sentence("LEARNT (what = 0), FORGOTTEN (1), KEPT (2) from one TIME to another (not less).");
        WordsKnown x = told("0*6", "000110", 99);
        tell(x, 0, "111 0", 9);
        dueLearnt(x, 0, 0, 9, 3, 1, 1);
        dueLearnt(x, 0, 0, 8, 0, 0, 2);
        dueLearnt(x, 0, 9, 9, 0, 0, 4);
        dueLearnt(x, 0, 0, 0, 0, 0, 2);
        dueLearnt(x, 0, 8, 999, 3, 1, 1);
        dueLearnt(x, 0, 999, 999, 0, 0, 4);
        sentence("BAD.");
        dueTaken("TAKER of learnt", 0, 3, BAD, v -> rich().learnt(v, 0, 0, 0));
        dueTaken("the first TIME of learnt", 0, 999, BAD, v -> rich().learnt(0, v, 999, 0));
        dueTaken("the first TIME of learnt, up to 5", 0, 5, BAD, v -> rich().learnt(0, v, 5, 0));
        dueTaken("the second TIME of learnt", 0, 999, BAD, v -> rich().learnt(0, 0, v, 0));
        dueTaken("the second TIME of learnt, from 5", 5, 999, BAD, v -> rich().learnt(0, 5, v, 0));
        dueTaken("both TIMES of learnt", 0, 999, BAD, v -> rich().learnt(0, v, v, 0));
        dueTaken("what of learnt", 0, 2, BAD, v -> rich().learnt(0, 0, 0, v));
    }

    private static void sheetAndLose() {
        promise(26);
        sentence("A SHEET is a new row of a FORM with n items: n.");
        WordsKnown x = new WordsKnown();
        due("sheet of 0", x.sheet(0, 0, 0), 0);
        due("lose of 0", x.lose(0), 0);
        due("sheet of 60", x.sheet(3, 2, 60), 60);
        x.lay(3, 2, 0, 9);
        x.lay(3, 2, 59, 9);
        due("sheet of 60 once more", x.sheet(3, 2, 60), 60);
        due("its first item", x.get(3, 2, 0), 0);
        due("its last item", x.get(3, 2, 59), 0);
        due("sheet of 1 of another FORM", x.sheet(3, 1, 1), 1);
        due("lose of 1", x.lose(3), 1);
        sentence("BAD: SHEET, FORM, above 60;");
        dueTaken("SHEET of sheet", 0, 3, BAD, v -> new WordsKnown().sheet(v, 0, 1));
        dueTaken("FORM of sheet", 0, 2, BAD, v -> new WordsKnown().sheet(0, v, 1));
        for (int n : new int[] {61, 62, MOST_INT}) due("sheet of " + n, x.sheet(0, 0, n), BAD);
        due("count(8)", x.count(8), 0);
        sentence("SIZE.");
        for (int n : new int[] {-1, -2, LEAST_INT}) due("sheet of " + n, x.sheet(0, 0, n), SIZE);
        due("count(8)", x.count(8), 5);
        due("lose of it", x.lose(0), NULL);

        promise(27);
        sentence("It is LOST: how many items it had.");
        for (int n : new int[] {0, 1, 60}) {
            x = new WordsKnown();
            x.sheet(2, 1, n);
            due("lose of " + n, x.lose(2), n);
            due("get behind it", x.get(2, 1, 0), LEAST_INT);
            due("count(8)", x.count(8), 1);
        }
        sentence("BAD;");
        dueTaken("lose", 0, 3, BAD, v -> rich().lose(v));
        sentence("NULL.");
        due("lose of one that was lost", x.lose(2), NULL);
        for (int s = 0; s < 4; s++) due("lose of a new one", new WordsKnown().lose(s), NULL);
    }

    /** Sheet 0 to 2 of the forms 0 to 2, of two items each. */
    private static WordsKnown forms() {
        WordsKnown x = new WordsKnown();
        for (int form = 0; form < 3; form++) x.sheet(form, form, 2);
        return x;
    }

    private static void layAndGet() {
        promise(28);
        sentence("Item i, treated as of a FORM, becomes v (the lowest bits that it has, with its sign): 1.");
        int[][] laid = {{0, 127, 127}, {0, 128, -128}, {0, -129, 127}, {0, 256, 0}, {0, LEAST_INT, 0}, {0, MOST_INT, -1},
            {1, 128, 128}, {1, 32767, 32767}, {1, 32768, -32768}, {1, -32769, 32767}, {1, 65536, 0}, {1, LEAST_INT, 0}, {1, MOST_INT, -1},
            {2, 32768, 32768}, {2, 65536, 65536}, {2, LEAST_INT + 1, LEAST_INT + 1}, {2, MOST_INT, MOST_INT}};
        for (int[] r : laid) {
            for (int i = 0; i < 2; i++) {
                WordsKnown x = forms();
                due("lay(" + r[0] + ", " + r[0] + ", " + i + ", " + r[1] + ")", x.lay(r[0], r[0], i, r[1]), 1);
                due("get of it", x.get(r[0], r[0], i), r[2]);
                due("get of the other item", x.get(r[0], r[0], 1 - i), 0);
            }
        }
        sentence("BAD;");
        dueTaken("SHEET of lay", 0, 3, BAD, v -> rich().lay(v, 0, 0, 0));
        dueTaken("FORM of lay", 0, 2, BAD, v -> rich().lay(0, v, 0, 0));
        sentence("NULL;");
        due("lay in a LOST one", forms().lay(3, 0, 0, 0), NULL);
        due("lay in one that was lost", lost0(forms()).lay(0, 0, 0, 0), NULL);
        sentence("CAST;");
        for (int form = 0; form < 3; form++) {
            for (int as = 0; as < 3; as++) due("lay in " + form + " as " + as, forms().lay(form, as, 0, 1), form == as ? 1 : CAST);
        }
        sentence("INDEX.");
        dueTaken("item of lay, two there", 0, 1, INDEX, v -> forms().lay(1, 1, v, 9));
        dueTaken("item of lay, 60 there", 0, 59, INDEX, v -> full().lay(1, 2, v, 9));

        promise(29);
        sentence("Item i of it.");
        WordsKnown x = new WordsKnown();
        lay(x, 1, 2, 5, LEAST_INT, MOST_INT);
        dueItems(x, 1, 2, 5, LEAST_INT, MOST_INT);
        due("count(8)", x.count(8), 0);
        x = full();
        x.lay(3, 2, 59, -7);
        due("get(3, 2, 59)", x.get(3, 2, 59), -7);
        due("get(3, 2, 58)", x.get(3, 2, 58), 0);
        sentence("BAD: the least int;");
        dueTaken("SHEET of get", 0, 3, LEAST_INT, v -> rich().get(v, 0, 0));
        for (int form : new int[] {-1, 3, LEAST_INT, MOST_INT}) due("get of FORM " + form, x.get(0, form, 0), LEAST_INT);
        for (int s : new int[] {-1, 4, LEAST_INT, MOST_INT}) due("get of SHEET " + s, x.get(s, 0, 0), LEAST_INT);
        due("count(8) after BAD", x.count(8), 0);
        sentence("so are NULL, CAST, INDEX (count() 8 tells).");
        x = forms();
        due("get of a LOST one", x.get(3, 0, 0), LEAST_INT);
        due("count(8)", x.count(8), 1);
        due("get as of another FORM", x.get(0, 1, 0), LEAST_INT);
        due("count(8)", x.count(8), 3);
        for (int i : new int[] {2, -1, LEAST_INT, MOST_INT}) {
            x = forms();
            due("get of item " + i, x.get(0, 0, i), LEAST_INT);
            due("count(8)", x.count(8), 2);
        }
        for (int form = 0; form < 3; form++) {
            for (int as = 0; as < 3; as++) due("get in " + form + " as " + as, forms().get(form, as, 1), form == as ? 0 : LEAST_INT);
        }
    }

    /** Sheet 0 has the items 1 to 5, sheet 1 four items, both ints; sheet 2 is of shorts, sheet 3 is lost. */
    private static WordsKnown forCopy() {
        WordsKnown x = new WordsKnown();
        lay(x, 0, 2, 1, 2, 3, 4, 5);
        x.sheet(1, 2, 4);
        x.sheet(2, 1, 5);
        return x;
    }

    private static void copy() {
        promise(30);
        sentence("n items of SHEET s, from i on, come to SHEET t (perhaps s, as they were), from j on: 1.");
        WordsKnown x = forCopy();
        due("copy of all that fit", x.copy(0, 0, 1, 0, 4), 1);
        dueItems(x, 1, 2, 1, 2, 3, 4);
        due("copy of the last", x.copy(0, 4, 1, 3, 1), 1);
        dueItems(x, 1, 2, 1, 2, 3, 5);
        due("copy of none", x.copy(0, 0, 1, 0, 0), 1);
        dueItems(x, 1, 2, 1, 2, 3, 5);
        dueItems(x, 0, 2, 1, 2, 3, 4, 5);
        due("copy onto itself, up", x.copy(0, 0, 0, 1, 4), 1);
        dueItems(x, 0, 2, 1, 1, 2, 3, 4);
        due("copy onto itself, down", x.copy(0, 1, 0, 0, 4), 1);
        dueItems(x, 0, 2, 1, 2, 3, 4, 4);
        due("copy onto its place", x.copy(0, 0, 0, 0, 5), 1);
        dueItems(x, 0, 2, 1, 2, 3, 4, 4);
        due("copy of 60", full().copy(0, 0, 1, 0, 60), 1);
        sentence("BAD: the SHEETS;");
        dueTaken("s of copy", 0, 3, BAD, v -> rich().copy(v, 0, 0, 0, 1));
        dueTaken("t of copy", 0, 3, BAD, v -> rich().copy(0, 0, v, 0, 1));
        sentence("NULL: s, t;");
        due("copy from a LOST one", forCopy().copy(3, 0, 0, 0, 0), NULL);
        due("copy to a LOST one", forCopy().copy(0, 0, 3, 0, 0), NULL);
        due("copy of a LOST one onto itself", forCopy().copy(3, 0, 3, 0, 0), NULL);
        sentence("STORE;");
        due("copy of ints to shorts", forCopy().copy(0, 0, 2, 0, 1), STORE);
        due("copy of shorts to ints", forCopy().copy(2, 0, 0, 0, 1), STORE);
        due("copy of none of ints to shorts", forCopy().copy(0, 0, 2, 0, 0), STORE);
        sentence("INDEX: below 0, not so many (with n 0, too, if i or j is above how many there are).");
        dueTaken("i of copy, two items", 0, 3, INDEX, v -> forCopy().copy(0, v, 1, 0, 2));
        dueTaken("j of copy, two items", 0, 2, INDEX, v -> forCopy().copy(0, 0, 1, v, 2));
        dueTaken("n of copy", 0, 4, INDEX, v -> forCopy().copy(0, 0, 1, 0, v));
        dueTaken("n of copy, the other way", 0, 4, INDEX, v -> forCopy().copy(1, 0, 0, 0, v));
        dueTaken("n of copy from 3 on", 0, 2, INDEX, v -> forCopy().copy(0, 3, 1, 0, v));
        dueTaken("n of copy to 3 on", 0, 1, INDEX, v -> forCopy().copy(0, 0, 1, 3, v));
        dueTaken("i of copy, no items", 0, 5, INDEX, v -> forCopy().copy(0, v, 1, 0, 0));
        dueTaken("j of copy, no items", 0, 4, INDEX, v -> forCopy().copy(0, 0, 1, v, 0));
        due("copy, i and n that wrap", forCopy().copy(0, 2, 1, 0, MOST_INT), INDEX);
        due("copy, i and n that wrap", forCopy().copy(0, MOST_INT, 1, 0, 3), INDEX);
        due("copy, j and n that wrap", forCopy().copy(0, 0, 1, MOST_INT, 3), INDEX);
        due("copy, all far below", forCopy().copy(0, LEAST_INT, 1, LEAST_INT, LEAST_INT), INDEX);
        x = forCopy();
        due("copy of too many", x.copy(0, 1, 1, 0, 5), INDEX);
        dueItems(x, 1, 2, 0, 0, 0, 0);
    }

    private static void write() {
        promise(31);
        sentence("What a TAKER says of WORDS 0 on (-1: not answered) comes to a SHEET (of each the lowest bits that an item has, with its sign) from item 0 on");
        for (int form = 0; form < 3; form++) {
            WordsKnown x = told("0*3;f*2", "10-1", 9);
            lay(x, 0, form, 9, 9, 9, 9, 9, 9);
            due("write(0, 0)", x.write(0, 0), 5);
            dueItems(x, 0, form, 1, 0, -1, 1, -1, 9);
            x.asOf(0);
            x.answer(0, 0, 0, 1);
            x.write(0, 0);
            dueItems(x, 0, form, 1, 0, -1, 1, -1, 9);
            x.asOf(1);
            x.write(0, 0);
            dueItems(x, 0, form, 0, 0, -1, 1, -1, 9);
            x.write(3, 0);
            dueItems(x, 0, form, -1, -1, -1, -1, -1, 9);
        }
        sentence("as many as there are items and WORDS: how many.");
        WordsKnown x = told("0*2", "11", 9);
        x.sheet(0, 0, 0);
        due("write, no items", x.write(0, 0), 0);
        x.sheet(0, 0, 1);
        due("write, one item", x.write(0, 0), 1);
        x.sheet(0, 0, 2);
        due("write, two items", x.write(0, 0), 2);
        x.sheet(0, 0, 60);
        due("write, 60 items", x.write(0, 0), 2);
        x.wipe();
        due("write, no WORDS", x.write(0, 0), 0);
        x = fullOfWords();
        due("write, 40 WORDS", x.write(2, 3), 40);
        due("its last item", x.get(3, 2, 39), 1);
        due("the item behind it", x.get(3, 2, 40), 0);
        sentence("BAD;");
        dueTaken("TAKER of write", 0, 3, BAD, v -> rich().write(v, 0));
        dueTaken("SHEET of write", 0, 3, BAD, v -> rich().write(0, v));
        sentence("NULL.");
        due("write to a LOST one", lost0(rich()).write(0, 0), NULL);
        due("write to a LOST one, no WORDS", new WordsKnown().write(0, 3), NULL);
    }

    private static void dueCount(int what, int want, WordsKnown x) {
        due("count(" + what + ")", x.count(what), want);
    }

    private static void count() {
        promise(32);
        sentence("0 BANDS, 1 BOOKS, 2 bytes of THE LIST, 3 WORDS, 4 ANSWERS");
        WordsKnown none = new WordsKnown(), all = fullOfWords();
        int[] full = {6, 6, 19, 40, 120};
        for (int what = 0; what < 5; what++) {
            dueCount(what, 0, none);
            dueCount(what, full[what], all);
        }
        dueCount(2, 80, full());
        dueCount(3, 0, full());
        sentence("5 WORDS answered as of the TIME, of all TAKERS together (those that are there)");
        WordsKnown x = told("0*2;f", "1--", 9);
        dueCount(5, 1, x);
        tell(x, 0, " 0");
        tell(x, 3, "111111", 5);
        dueCount(5, 5, x);
        x.asOf(4);
        dueCount(5, 2, x);
        dueCount(5, 0, none);
        dueCount(5, 120, all);
        dueCount(5, 0, full());
        sentence("6 SIZES of all BANDS together");
        dueCount(6, 0, none);
        dueCount(6, 1, with("", 1));
        dueCount(6, 594, with("", 99, 99, 99, 99, 99, 99));
        sentence("7 AS OF");
        dueCount(7, 999, none);
        dueCount(7, 4, x);
        sentence("8 the number of the latest FINDING (0 before any).");
        x = forCopy();
        dueCount(8, 0, x);
        x.lose(3);
        dueCount(8, 1, x);
        x.lay(0, 2, 5, 0);
        dueCount(8, 2, x);
        x.lay(0, 0, 0, 0);
        dueCount(8, 3, x);
        x.copy(0, 0, 2, 0, 0);
        dueCount(8, 4, x);
        x.sheet(0, 0, -1);
        dueCount(8, 5, x);
        x.lose(4);
        x.lay(0, 2, 0, 7);
        dueCount(8, 5, x);
        sentence("BAD.");
        dueTaken("count", 0, 8, BAD, v -> rich().count(v));
    }

    // ---- digest

    private static List<Long> allTold(WordsKnown x) {
        List<Long> told = new ArrayList<>();
        for (int what = 0; what <= 7; what++) told.add((long) x.count(what));
        told.add((long) x.fault());
        for (int taker = 0; taker < 4; taker++) tellOfTaker(x, taker, told);
        for (int band = 0; band < x.count(0); band++) told.add((long) x.deal(20, band));
        for (int what = 0; what < 4; what++) told.add((long) x.pair(0, 1, what));
        told.add((long) x.better(0, 1));
        return told;
    }

    private static void tellOfTaker(WordsKnown x, int taker, List<Long> told) {
        for (int what = 0; what < 2; what++) told.add((long) x.asked(taker, NONE, what));
        for (int band = 0; band < x.count(0); band++) {
            for (int what = 0; what < 2; what++) told.add((long) x.asked(taker, band, what));
            for (int k = 0; k < 4; k++) told.add(x.share(taker, band, k / 2, k % 2));
        }
        for (int k = 0; k < 4; k++) told.add(x.knows(taker, k / 2, k % 2));
        for (int book = 0; book < x.count(1); book++) {
            for (int what = 0; what < 2; what++) told.add(x.cover(taker, book, what));
        }
        told.add((long) x.easiest(taker));
        told.add((long) x.ladder(taker, 50, 2, NONE));
        told.add((long) x.next(taker));
    }

    /** Without wrapping; a long keeps the lowest 64 bits of it. */
    private static BigInteger digestOf(List<Long> told) {
        BigInteger h = BigInteger.valueOf(17);
        for (long v : told) h = h.multiply(BigInteger.valueOf(31)).add(BigInteger.valueOf(v));
        return h;
    }

    private static void dueDigest(WordsKnown x, int told) {
        long digest = x.digest();
        List<Long> all = allTold(x);
        due("how many are told", all.size(), told);
        due("digest() of " + told, digest, digestOf(all).longValue());
    }

    /** A book with so many words of a band that is known and of one that is not, of such a SIZE; one of the latter alone. */
    private static WordsKnown ladders(int known, int unknown, int size) {
        WordsKnown x = told("0;1", "1", 99, size);
        book(x, known, unknown);
        book(x, 0, 1);
        return x;
    }

    private static void digest() {
        promise(33);
        sentence("h is 17; h becomes 31 h and each of (of each thing all that is told of it, then of the next one):");
        // 8 counts, the fault, of each taker 2 and 4 and 3, the pair's 4 and 1
        dueDigest(new WordsKnown(), 50);
        due("digest() of a new object", new WordsKnown().digest(), -1995736755919490855L);
        sentence("count() 0 to 7; fault();");
        WordsKnown x = new WordsKnown();
        long first = x.digest();
        x.asOf(998);
        due("digest(), AS OF one less", x.digest() - first, BigInteger.valueOf(-31).multiply(BigInteger.valueOf(31).pow(41)).longValue());
        x.asOf(999);
        x.lose(0);
        due("digest(), count() 8 is not of it", x.digest(), first);
        x.type('?');
        due("digest() with a FAULT at 0", x.digest() - first, BigInteger.valueOf(31).pow(47).add(BigInteger.valueOf(31).pow(41)).longValue());
        sentence("of each TAKER: asked(NONE, 0 and 1), of each BAND asked() 0, 1, share() 0, 1, above and below each; knows() 0, 1, above and below each;");
        dueDigest(with("", 9), 50 + 6 * 4 + 1);
        dueDigest(told("0*2;f*2", "1011", 9), 50 + 6 * 4 + 1);
        dueDigest(told("0*2;f*2", "1010", 9), 50 + 6 * 4 + 1);
        dueDigest(with("", 1, 2, 3, 4, 5, 99), 50 + 6 * 6 * 4 + 6);
        sentence("of each BOOK cover(), above, below; easiest(), ladder(50, 2, NONE), next();");
        x = told("0;1", "1", 40, 20);
        book(x, 10, 10);
        dueDigest(x, 50 + 6 * 2 * 4 + 2 + 2 * 4);
        book(x, 30, 30);
        book(x, 0, 9);
        due("ladder(0, 50, 2, NONE)", x.ladder(0, 50, 2, NONE), 3);
        due("ladder(0, 51, 2, NONE)", x.ladder(0, 51, 2, NONE), 0);
        due("ladder(0, 50, 3, NONE)", x.ladder(0, 50, 3, NONE), 2);
        dueDigest(x, 50 + 6 * 2 * 4 + 2 + 3 * 2 * 4);
        dueDigest(ladders(49, 51, 20), 50 + 6 * 2 * 4 + 2 + 2 * 2 * 4);
        dueDigest(ladders(50, 50, 50), 50 + 6 * 2 * 4 + 2 + 2 * 2 * 4);
        dueDigest(ladders(50, 50, 26), 50 + 6 * 2 * 4 + 2 + 2 * 2 * 4);
        due("ladder(0, 49, 2, NONE)", ladders(49, 51, 20).ladder(0, 49, 2, NONE), 2);
        due("ladder(0, 50, 2, NONE)", ladders(49, 51, 20).ladder(0, 50, 2, NONE), 0);
        due("ladder(0, 50, 1, NONE)", ladders(50, 50, 50).ladder(0, 50, 1, NONE), 2);
        due("ladder(0, 50, 2, NONE)", ladders(50, 50, 50).ladder(0, 50, 2, NONE), 1);
        due("ladder(0, 51, 2, NONE)", ladders(50, 50, 26).ladder(0, 51, 2, NONE), 0);
        due("ladder(0, 50, 2, NONE)", ladders(50, 50, 26).ladder(0, 50, 2, NONE), 1);
        sentence("then of each BAND deal(20); pair(0, 1, 0 to 3), better(0, 1);");
        dueDigest(ahead(24), 50 + 6 * 4 + 1);
        dueDigest(ahead(25), 50 + 6 * 4 + 1);
        due("better(0, 1) that is told FULL", ahead(25).better(0, 1), FULL);
        x = with("", 60, 10, 30);
        due("deal(20) differs from deal(19)", x.deal(20, 0) + 100 * x.deal(20, 1) + 10000 * x.deal(20, 2),
            x.deal(19, 0) + 100 * x.deal(19, 1) + 10000 * x.deal(19, 2) + 1);
        dueDigest(x, 50 + 6 * 3 * 4 + 3);
        sentence("all as they are told; as longs that wrap.");
        dueDigest(rich(), 50 + 6 * 6 * 4 + 6 + 6 * 2 * 4);
        dueDigest(fullOfWords(), 50 + 6 * 6 * 4 + 6 + 6 * 2 * 4);
        dueDigest(full(), 50 + 6 * 6 * 4 + 6 + 6 * 2 * 4);
        due("a digest that has wrapped has more than 64 bits", digestOf(allTold(rich())).bitLength() > 64 ? 1 : 0, 1);
        x = rich();
        due("digest() told once more", x.digest(), x.digest());
    }

    private static void promises1To16() {
        newObject();
        bandAndBook();
        run();
        list();
        faultAndWord();
        answer();
        read();
        asOfAndAsked();
        share();
        knows();
        mayAndLikeliest();
    }

    private static void promises17To33() {
        coverAndEasiest();
        ladder();
        nextAndDeal();
        pairAndAlike();
        betterAndLearnt();
        sheetAndLose();
        layAndGet();
        copy();
        write();
        count();
        digest();
    }

    public static void main(String[] args) {
        promises1To16();
        promises17To33();
        end();
    }
}
