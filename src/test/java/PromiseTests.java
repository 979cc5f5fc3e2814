// For each promise of the document: ordinary inputs, the edges that it names, and wrong inputs.
public final class PromiseTests {

    private static final int NONE = -1, BAD = -2, NOT = -3, FULL = -4;
    private static final int NULL = -11, INDEX = -12, CAST = -13, STORE = -14, SIZE = -15;
    private static final long LEAST = Long.MIN_VALUE;
    private static final long LONG_BAD = LEAST + 2, LONG_NOT = LEAST + 3;

    private static int promise = 0;
    private static int checks = 0;
    private static int wrong = 0;

    private static void due(String call, long got, long want) {
        checks++;
        if (got == want) return;
        wrong++;
        System.out.println("promise " + promise + ": " + call + " answered " + got + ", due is " + want);
    }

    private static void type(WordsKnown x, String text) {
        for (int i = 0; i < text.length(); i++) x.type(text.charAt(i));
    }

    private static void retype(WordsKnown x, String text) {
        x.wipe();
        type(x, text);
    }

    /** Answers at time 0 of words 0 on: 1 known, 0 not, - taken back, a blank: nothing told. */
    private static void tell(WordsKnown x, int taker, String says) {
        for (int i = 0; i < says.length(); i++) {
            char c = says.charAt(i);
            if (c != ' ') x.answer(taker, i, c == '-' ? -1 : c - '0', 0);
        }
    }

    private static WordsKnown with(String text, int... sizes) {
        WordsKnown x = new WordsKnown();
        for (int size : sizes) x.band(size);
        type(x, text);
        return x;
    }

    private static void books(WordsKnown x, int[]... running) {
        for (int[] row : running) {
            int book = x.book();
            for (int band = 0; band < row.length; band++) x.run(book, band, row[band]);
        }
    }

    private static int[] row(int... v) {
        return v;
    }

    /** On an object of its own: one is used for 512 calls at most. */
    private static void dueFault(String text, int want) {
        WordsKnown x = with(text, 9, 9);
        due("fault() of " + text, x.fault(), want);
        if (want != NONE) due("count(3) of " + text, x.count(3), 0);
    }

    private static void dueShare(WordsKnown x, int taker, int band, int which, long above, long below) {
        due("share(" + taker + ", " + band + ", " + which + ", 0)", x.share(taker, band, which, 0), above);
        due("share(" + taker + ", " + band + ", " + which + ", 1)", x.share(taker, band, which, 1), below);
    }

    private static void dueKnows(WordsKnown x, int taker, int which, long above, long below) {
        due("knows(" + taker + ", " + which + ", 0)", x.knows(taker, which, 0), above);
        due("knows(" + taker + ", " + which + ", 1)", x.knows(taker, which, 1), below);
    }

    private static void dueCover(WordsKnown x, int taker, int book, long above, long below) {
        due("cover(" + taker + ", " + book + ", 0)", x.cover(taker, book, 0), above);
        due("cover(" + taker + ", " + book + ", 1)", x.cover(taker, book, 1), below);
    }

    private static void dueLadder(WordsKnown x, int p, int m, int... order) {
        due("ladder(0, " + p + ", " + m + ", NONE)", x.ladder(0, p, m, NONE), order.length);
        for (int i = 0; i < order.length; i++) due("ladder(0, " + p + ", " + m + ", " + i + ")", x.ladder(0, p, m, i), order[i]);
        due("ladder(0, " + p + ", " + m + ", beyond)", x.ladder(0, p, m, order.length), NONE);
    }

    private static void duePairs(WordsKnown x, int a, int b, int both, int first, int second, int neither) {
        due("pair(" + a + ", " + b + ", 0)", x.pair(a, b, 0), both);
        due("pair(" + a + ", " + b + ", 1)", x.pair(a, b, 1), first);
        due("pair(" + a + ", " + b + ", 2)", x.pair(a, b, 2), second);
        due("pair(" + a + ", " + b + ", 3)", x.pair(a, b, 3), neither);
    }

    private static void dueItems(WordsKnown x, int s, int form, int... items) {
        for (int i = 0; i < items.length; i++) due("get(" + s + ", " + form + ", " + i + ")", x.get(s, form, i), items[i]);
        due("get beyond", x.get(s, form, items.length), Integer.MIN_VALUE);
    }

    private static void promise1() {
        promise = 1;
        WordsKnown x = new WordsKnown();
        for (int what = 0; what <= 8; what++) due("count(" + what + ")", x.count(what), what == 7 ? 999 : 0);
        due("fault()", x.fault(), NONE);
        due("word(0)", x.word(0), NONE);
        due("asked(0, NONE, 0)", x.asked(0, NONE, 0), 0);
        due("share(0, 0, 0, 0)", x.share(0, 0, 0, 0), LONG_BAD);
        dueKnows(x, 3, 0, 0, 1);
        due("knows(3, 1, 0)", x.knows(3, 1, 0), LONG_NOT);
        due("easiest(0)", x.easiest(0), NONE);
        due("next(0)", x.next(0), NONE);
        for (int s = 0; s < 4; s++) due("lose(" + s + ")", x.lose(s), NULL);
        due("NONE", WordsKnown.NONE, -1);
        due("BAD", WordsKnown.BAD, -2);
        due("NOT", WordsKnown.NOT, -3);
        due("FULL", WordsKnown.FULL, -4);
    }

    private static void promise2() {
        promise = 2;
        WordsKnown x = new WordsKnown();
        due("band(0)", x.band(0), BAD);
        due("band(100)", x.band(100), BAD);
        due("band(-1)", x.band(-1), BAD);
        due("band(1)", x.band(1), 0);
        due("band(99)", x.band(99), 1);
        for (int i = 2; i < 6; i++) due("band(" + i + ")", x.band(i), i);
        due("count(0)", x.count(0), 6);
        due("count(6)", x.count(6), 114);
        due("band(7)", x.band(7), FULL);
        due("band(0), full", x.band(0), BAD);
        due("count(6)", x.count(6), 114);
    }

    private static void promise3() {
        promise = 3;
        WordsKnown x = new WordsKnown();
        for (int i = 0; i < 6; i++) due("book()", x.book(), i);
        due("book()", x.book(), FULL);
        due("count(1)", x.count(1), 6);
    }

    private static void promise4() {
        promise = 4;
        WordsKnown x = new WordsKnown();
        due("run without a book", x.run(0, 0, 1), BAD);
        x.book();
        due("run(0, 0, 7)", x.run(0, 0, 7), 0);
        due("run(0, 5, 99)", x.run(0, 5, 99), 0);
        due("run(0, 5, 0)", x.run(0, 5, 0), 99);
        due("run(0, 0, 100)", x.run(0, 0, 100), BAD);
        due("run(0, 0, -1)", x.run(0, 0, -1), BAD);
        due("run(0, 6, 1)", x.run(0, 6, 1), BAD);
        due("run(0, -1, 1)", x.run(0, -1, 1), BAD);
        due("run(1, 0, 1)", x.run(1, 0, 1), BAD);
        due("run(-1, 0, 1)", x.run(-1, 0, 1), BAD);
        due("run(0, 0, 8)", x.run(0, 0, 8), 7);
        due("book()", x.book(), 1);
        due("run(1, 0, 8)", x.run(1, 0, 8), 0);
    }

    private static void promise5() {
        promise = 5;
        WordsKnown x = new WordsKnown();
        due("type(256)", x.type(256), BAD);
        due("type(-1)", x.type(-1), BAD);
        due("type(0)", x.type(0), 1);
        due("type(255)", x.type(255), 2);
        for (int i = 3; i <= 80; i++) due("type(102)", x.type(102), i);
        due("type(102), full", x.type(102), FULL);
        due("type(256), full", x.type(256), BAD);
        due("count(2)", x.count(2), 80);
    }

    private static void promise6() {
        promise = 6;
        WordsKnown x = with("0;0;f", 9);
        tell(x, 0, "111");
        due("wipe()", x.wipe(), 5);
        due("count(2)", x.count(2), 0);
        due("count(3)", x.count(3), 0);
        due("count(4)", x.count(4), 3);
        due("count(5)", x.count(5), 0);
        due("fault()", x.fault(), NONE);
        due("wipe()", x.wipe(), 0);
        type(x, "f");
        due("word(0)", x.word(0), 6);
        due("asked(0, NONE, 1)", x.asked(0, NONE, 1), 1);
    }

    private static void promise7() {
        promise = 7;
        dueFault("", NONE);
        dueFault("0", NONE);
        dueFault("1*9;f*2;f;0", NONE);
        dueFault("2", 0);
        dueFault("0;2", 2);
        dueFault("0;9*x", 2);
        dueFault("0;", 2);
        dueFault(";", 0);
        dueFault(";0", 0);
        dueFault("0;;0", 2);
        dueFault("0*", 2);
        dueFault("0*;", 2);
        dueFault("0*1", 2);
        dueFault("0*0", 2);
        dueFault("0*:", 2);
        dueFault("0*22", 3);
        dueFault("0*2*2", 3);
        dueFault("00", 1);
        dueFault("0f", 1);
        dueFault("F", 0);
        dueFault("g", 0);
        dueFault("/", 0);
        dueFault("0 ;1", 1);
        dueFault("0;1;?;2", 4);
        dueFault("0*9;0*9;0*9;0*9;0*4", NONE);
        dueFault("0*9;0*9;0*9;0*9;f*5", 16);
        dueFault("0*9;0*9;0*9;0*9;0*5x", 16);
        dueFault("0*9;0*9;0*9;0*9;0*4;f", 20);
        dueFault("0*9;0*9;0*9;0*9;0*4;", 20);
        dueFault("0*9;0*9;0*9;0*9;0*3;1", NONE);
        dueFault("0*9;0*9;0*9;0*9;0*4;2", 20);
        // a part is held against the 40 words when it stands whole
        dueFault("0*9;0*9;0*9;0*9;0*4;f*", 22);
        dueFault("0*9;0*9;0*9;0*9;0*4;f*x", 22);
        StringBuilder full = new StringBuilder("f");
        for (int i = 1; i < 40; i++) full.append(";f");
        dueFault(full.toString(), NONE);
        dueFault(full.append(';').toString(), 80);
        dueFault(full.toString().substring(0, 79) + "*", 80);
        WordsKnown x = with("2", 9, 9);
        due("fault()", x.fault(), 0);
        x.band(3);
        due("fault() with the band there", x.fault(), NONE);
        due("word(0)", x.word(0), 2);
    }

    private static void promise8() {
        promise = 8;
        WordsKnown x = with("1*2;f;0;f*3", 9, 9);
        int[] kinds = row(1, 1, 6, 0, 6, 6, 6, -1);
        for (int i = 0; i < kinds.length; i++) due("word(" + i + ")", x.word(i), kinds[i]);
        due("word(39)", x.word(39), NONE);
        due("word(40)", x.word(40), BAD);
        due("word(-1)", x.word(-1), BAD);
        type(x, "!");
        due("word(0) with a fault", x.word(0), NONE);
        retype(x, "0*9;0*9;0*9;0*9;0*3;f");
        due("word(38)", x.word(38), 0);
        due("word(39)", x.word(39), 6);
    }

    private static void promise9() {
        promise = 9;
        WordsKnown x = with("0*3", 9);
        due("answer(-1, 0, 1, 0)", x.answer(-1, 0, 1, 0), BAD);
        due("answer(4, 0, 1, 0)", x.answer(4, 0, 1, 0), BAD);
        due("answer(0, -1, 1, 0)", x.answer(0, -1, 1, 0), BAD);
        due("answer(0, 40, 1, 0)", x.answer(0, 40, 1, 0), BAD);
        due("answer(0, 0, 2, 0)", x.answer(0, 0, 2, 0), BAD);
        due("answer(0, 0, -2, 0)", x.answer(0, 0, -2, 0), BAD);
        due("answer(0, 0, 1, -1)", x.answer(0, 0, 1, -1), BAD);
        due("answer(0, 0, 1, 1000)", x.answer(0, 0, 1, 1000), BAD);
        due("answer(0, 0, 1, 7)", x.answer(0, 0, 1, 7), 1);
        due("answer(3, 39, 0, 6)", x.answer(3, 39, 0, 6), BAD);
        due("answer(3, 39, 0, 7)", x.answer(3, 39, 0, 7), 2);
        due("asked(0, 0, 1)", x.asked(0, 0, 1), 1);
        due("answer(0, 0, 0, 8)", x.answer(0, 0, 0, 8), 3);
        due("asked(0, 0, 1), told again", x.asked(0, 0, 1), 0);
        due("answer(0, 0, -1, 8)", x.answer(0, 0, -1, 8), 4);
        due("asked(0, 0, 0), taken back", x.asked(0, 0, 0), 0);
        due("answer(0, 1, -1, 8)", x.answer(0, 1, -1, 8), 5);
        due("answer(0, 0, 1, 8)", x.answer(0, 0, 1, 8), 6);
        due("asked(0, 0, 0), told again", x.asked(0, 0, 0), 1);
        for (int i = 7; i <= 120; i++) due("answer(1, 2, 1, 999)", x.answer(1, 2, 1, 999), i);
        due("answer, full", x.answer(1, 2, 0, 999), FULL);
        due("answer, full and bad", x.answer(1, 2, 0, 998), BAD);
        due("answer, full and no taker", x.answer(4, 2, 0, 999), BAD);
        due("asked(1, 0, 1)", x.asked(1, 0, 1), 1);
        due("count(4)", x.count(4), 120);
    }

    private static void promise10() {
        promise = 10;
        WordsKnown x = with("0*9;0*9;0*9;0*9;0*4", 99);
        due("read of a lost sheet", x.read(0, 0, 0), NULL);
        due("count(8)", x.count(8), 1);
        due("read of a lost sheet, no taker", x.read(0, 4, 0), BAD);
        due("read, no sheet", x.read(-1, 0, 0), BAD);
        due("read, no time", x.read(0, 0, 1000), BAD);
        x.sheet(0, 0, 5);
        x.lay(0, 0, 1, 1);
        x.lay(0, 0, 2, -1);
        x.lay(0, 0, 3, 2);
        due("read(0, 0, 5)", x.read(0, 0, 5), 3);
        due("count(4)", x.count(4), 3);
        due("asked(0, 0, 0)", x.asked(0, 0, 0), 2);
        due("asked(0, 0, 1)", x.asked(0, 0, 1), 1);
        due("read at an earlier time", x.read(0, 0, 4), BAD);
        due("read(0, 1, 6)", x.read(0, 1, 6), 3);
        x.lay(0, 0, 0, -2);
        due("read of none", x.read(0, 2, 9), 0);
        due("answer at a time that nothing was read at", x.answer(2, 0, 1, 6), 7);
        x.sheet(1, 2, 60);
        due("read of 60 items", x.read(1, 3, 6), 40);
        due("asked(3, 0, 0)", x.asked(3, 0, 0), 40);
        due("read of 60 items", x.read(1, 3, 6), 40);
        due("read with room for less", x.read(1, 2, 6), 33);
        due("count(4)", x.count(4), 120);
        due("asked(2, 0, 0)", x.asked(2, 0, 0), 33);
        due("read without room", x.read(1, 2, 6), 0);
        x.sheet(2, 1, 0);
        due("read of no items", x.read(2, 2, 6), 0);
    }

    private static void promise11() {
        promise = 11;
        WordsKnown x = with("0*2;f", 9);
        due("asOf(1000)", x.asOf(1000), BAD);
        due("asOf(-1)", x.asOf(-1), BAD);
        due("asOf(10)", x.asOf(10), 999);
        x.answer(0, 0, 1, 5);
        x.answer(0, 0, 0, 10);
        x.answer(0, 1, 1, 11);
        x.answer(0, 0, -1, 12);
        due("asked(0, 0, 0) as of 10", x.asked(0, 0, 0), 1);
        due("asked(0, 0, 1) as of 10", x.asked(0, 0, 1), 0);
        due("asOf(9)", x.asOf(9), 10);
        due("asked(0, 0, 1) as of 9", x.asked(0, 0, 1), 1);
        due("asOf(4)", x.asOf(4), 9);
        due("asked(0, 0, 0) as of 4", x.asked(0, 0, 0), 0);
        due("asOf(11)", x.asOf(11), 4);
        due("asked(0, 0, 0) as of 11", x.asked(0, 0, 0), 2);
        due("asOf(0)", x.asOf(0), 11);
        due("asOf(999)", x.asOf(999), 0);
        due("asked(0, 0, 0) as of 999", x.asked(0, 0, 0), 1);
        due("count(7)", x.count(7), 999);
    }

    private static void promise12() {
        promise = 12;
        WordsKnown x = with("0*2;1*3;f*2", 9, 9);
        tell(x, 0, "10 01011");
        due("asked(0, 0, 0)", x.asked(0, 0, 0), 2);
        due("asked(0, 0, 1)", x.asked(0, 0, 1), 1);
        due("asked(0, 1, 0)", x.asked(0, 1, 0), 2);
        due("asked(0, 1, 1)", x.asked(0, 1, 1), 1);
        due("asked(0, NONE, 0)", x.asked(0, NONE, 0), 2);
        due("asked(0, NONE, 1)", x.asked(0, NONE, 1), 1);
        due("asked(1, 0, 0)", x.asked(1, 0, 0), 0);
        due("asked(4, 0, 0)", x.asked(4, 0, 0), BAD);
        due("asked(-1, 0, 0)", x.asked(-1, 0, 0), BAD);
        due("asked(0, 2, 0)", x.asked(0, 2, 0), BAD);
        due("asked(0, -2, 0)", x.asked(0, -2, 0), BAD);
        due("asked(0, 6, 0)", x.asked(0, 6, 0), BAD);
        due("asked(0, 0, 2)", x.asked(0, 0, 2), BAD);
        due("asked(0, 0, -1)", x.asked(0, 0, -1), BAD);
        retype(x, "f*9");
        due("asked(0, 0, 0), with another list", x.asked(0, 0, 0), 0);
        due("asked(0, NONE, 0), with another list", x.asked(0, NONE, 0), 7);
        due("asked(0, NONE, 1), with another list", x.asked(0, NONE, 1), 4);
    }

    private static void promise13() {
        promise = 13;
        WordsKnown x = with("0*4;1*6;f*3", 20, 30, 9);
        tell(x, 0, "1100111100");
        dueShare(x, 0, 0, 0, 1, 2);
        dueShare(x, 0, 0, 1, 1, 2);
        dueShare(x, 0, 1, 0, 2, 3);
        due("share of no asked ones", x.share(0, 2, 0, 0), LONG_NOT);
        due("share of no asked ones, true", x.share(0, 2, 1, 1), LONG_NOT);
        due("share, no band", x.share(0, 3, 0, 0), LONG_BAD);
        due("share, the false ones", x.share(0, NONE, 0, 0), LONG_BAD);
        due("share, no taker", x.share(4, 0, 0, 0), LONG_BAD);
        due("share, no which", x.share(0, 0, 2, 0), LONG_BAD);
        due("share, no which", x.share(0, 2, -1, 0), LONG_BAD);
        due("share, no what", x.share(0, 2, 0, 2), LONG_BAD);
        due("share, no what", x.share(0, 2, 0, -1), LONG_BAD);
        tell(x, 0, "          001");
        dueShare(x, 0, 0, 1, 1, 4);
        dueShare(x, 0, 1, 1, 1, 2);
        tell(x, 0, "          110");
        dueShare(x, 0, 0, 0, 1, 2);
        dueShare(x, 0, 0, 1, 0, 1);
        dueShare(x, 0, 1, 1, 0, 1);
        tell(x, 0, "1111");
        dueShare(x, 0, 0, 1, 1, 1);
        tell(x, 0, "          111");
        dueShare(x, 0, 0, 0, 1, 1);
        due("share, true with guess 1", x.share(0, 0, 1, 0), LONG_NOT);
        due("share, true with guess 1", x.share(0, 0, 1, 1), LONG_NOT);
        tell(x, 0, "0000");
        dueShare(x, 0, 0, 0, 0, 1);
        tell(x, 1, "1");
        dueShare(x, 1, 0, 0, 1, 1);
    }

    private static void promise14() {
        promise = 14;
        WordsKnown x = with("0*4;1*6;f*4", 20, 31, 9);
        dueKnows(x, 0, 0, 0, 1);
        due("knows, nobody asked", x.knows(0, 1, 0), LONG_NOT);
        tell(x, 0, "          0001");
        dueKnows(x, 0, 0, 1, 4);
        due("knows, no band asked", x.knows(0, 1, 0), LONG_NOT);
        tell(x, 0, "1110");
        // 20 * (3/4 - 1/4) / (3/4) = 40/3
        dueKnows(x, 0, 1, 40, 3);
        tell(x, 0, "    111001");
        // 31 * (4/6 - 1/4) / (3/4) = 31 * 5/9
        dueKnows(x, 0, 1, 275, 9);
        tell(x, 0, "          1010");
        dueKnows(x, 0, 0, 1, 2);
        tell(x, 0, "          1111");
        dueKnows(x, 0, 0, 1, 1);
        due("knows, guess 1", x.knows(0, 1, 0), LONG_NOT);
        due("knows, guess 1", x.knows(0, 1, 1), LONG_NOT);
        due("knows, no taker", x.knows(4, 0, 0), LONG_BAD);
        due("knows, no which", x.knows(0, 2, 0), LONG_BAD);
        due("knows, no what", x.knows(0, 1, 2), LONG_BAD);
        due("knows, no what", x.knows(0, 1, -1), LONG_BAD);
        tell(x, 0, "0000000000----");
        dueKnows(x, 0, 1, 0, 1);
        x = with("0;5;f", 9, 9, 9, 9, 9, 7);
        tell(x, 0, " 1");
        dueKnows(x, 0, 1, 7, 1);
        tell(x, 0, "1 0");
        dueKnows(x, 0, 0, 0, 1);
        dueKnows(x, 0, 1, 16, 1);
        tell(x, 0, "  1");
        dueKnows(x, 0, 0, 1, 1);
    }

    private static void promise15() {
        promise = 15;
        WordsKnown x = with("0*2;1*9;2*3", 4, 30, 2, 5);
        due("may, none asked", x.may(0, 0, 0, 0), NOT);
        due("may, none asked, bad", x.may(0, 0, 256, 0), BAD);
        tell(x, 0, "10");
        int[] at = row(0, 127, 128, 213, 214, 255);
        int[] least = row(1, 1, 2, 2, 3, 3);
        int[] greatest = row(3, 3, 2, 2, 1, 1);
        for (int i = 0; i < at.length; i++) {
            due("may(0, 0, " + at[i] + ", 0)", x.may(0, 0, at[i], 0), least[i]);
            due("may(0, 0, " + at[i] + ", 1)", x.may(0, 0, at[i], 1), greatest[i]);
        }
        tell(x, 1, "00111111110111");
        due("may with no yes", x.may(1, 0, 255, 0), 0);
        due("may with no yes", x.may(1, 0, 0, 1), 2);
        due("may with 9 asked", x.may(1, 1, 0, 0), FULL);
        due("may with more asked than its size", x.may(1, 2, 0, 0), FULL);
        due("may, full and bad", x.may(1, 1, 0, 2), BAD);
        tell(x, 1, "          -");
        due("may with 8 asked", x.may(1, 1, 0, 0), 8);
        due("may with 8 asked", x.may(1, 1, 255, 1), 30);
        tell(x, 1, "             -");
        due("may with as many asked as its size", x.may(1, 2, 255, 0), 2);
        tell(x, 1, "           000");
        tell(x, 1, "             -");
        due("may, all asked, no yes", x.may(1, 2, 255, 0), 0);
        due("may, all asked, no yes", x.may(1, 2, 0, 1), 0);
        tell(x, 1, "           10");
        due("may, all asked, one yes", x.may(1, 2, 255, 0), 1);
        due("may, all asked, one yes", x.may(1, 2, 255, 1), 1);
        WordsKnown large = with("0*8", 99);
        tell(large, 0, "11111111");
        due("may of 99, all yes", large.may(0, 0, 255, 0), 99);
        due("may of 99, all yes", large.may(0, 0, 0, 0), 8);
        tell(large, 0, "00000000");
        due("may of 99, no yes", large.may(0, 0, 255, 1), 0);
        due("may of 99, no yes", large.may(0, 0, 0, 1), 91);
        due("may with a fault in the list, none asked", x.may(1, 3, 0, 0), NOT);
        due("may, no band", x.may(0, 4, 0, 0), BAD);
        due("may, the false ones", x.may(0, NONE, 0, 0), BAD);
        due("may, no taker", x.may(-1, 0, 0, 0), BAD);
        due("may, x below", x.may(0, 0, -1, 0), BAD);
        due("may, no end", x.may(0, 0, 0, -1), BAD);
    }

    private static void promise16() {
        promise = 16;
        WordsKnown x = with("0*2;1*6;2*3", 4, 5, 2, 5);
        due("likeliest, none asked", x.likeliest(0, 0, 0), NOT);
        due("likeliest, none asked, bad", x.likeliest(0, 0, 16), BAD);
        tell(x, 0, "10");
        due("likeliest(0, 0, 0)", x.likeliest(0, 0, 0), 2);
        due("likeliest(0, 0, 8), of like ones the least", x.likeliest(0, 0, 8), 0);
        due("likeliest(0, 0, 7)", x.likeliest(0, 0, 7), 1);
        tell(x, 0, "  10");
        due("likeliest(0, 1, 0), of like ones the least", x.likeliest(0, 1, 0), 2);
        tell(x, 0, "11111");
        due("likeliest, all yes", x.likeliest(0, 0, 15), 4);
        tell(x, 0, "00");
        due("likeliest, no yes", x.likeliest(0, 0, 15), 0);
        tell(x, 1, "  111101111");
        due("likeliest with 6 asked", x.likeliest(1, 1, 0), FULL);
        due("likeliest with more asked than its size", x.likeliest(1, 2, 0), FULL);
        due("likeliest, full and bad", x.likeliest(1, 1, -1), BAD);
        tell(x, 1, "       -  -");
        due("likeliest with 5 asked, as many as its size", x.likeliest(1, 1, 0), 4);
        due("likeliest with as many asked as its size", x.likeliest(1, 2, 0), 2);
        WordsKnown large = with("0*5", 99);
        tell(large, 0, "11100");
        // C(59, 3) * C(40, 2) is as much as C(60, 3) * C(39, 2)
        due("likeliest of 99, of like ones the least", large.likeliest(0, 0, 0), 59);
        tell(large, 0, "11111");
        due("likeliest of 99, all yes", large.likeliest(0, 0, 3), 99);
        WordsKnown half = with("0*3", 50);
        tell(half, 0, "110");
        due("likeliest, guessed every other time", half.likeliest(0, 0, 8), 17);
        due("likeliest, never guessed", half.likeliest(0, 0, 0), 33);
        due("likeliest, no band", x.likeliest(0, 4, 0), BAD);
        due("likeliest, the false ones", x.likeliest(0, NONE, 0), BAD);
        due("likeliest, no taker", x.likeliest(4, 0, 0), BAD);
    }

    private static void promise17() {
        promise = 17;
        WordsKnown x = with("0*2;1*3;f*2", 10, 20, 30);
        books(x, row(10, 20), row(0, 0, 30, 0, 0, 30), row(), row(5, 0, 0, 0, 0, 5));
        dueCover(x, 0, 0, 0, 1);
        due("cover of a book without words", x.cover(0, 2, 0), LONG_NOT);
        tell(x, 0, "10110");
        // (1/2 * 10 + 2/3 * 20) / 30 = 11/18
        dueCover(x, 0, 0, 11, 18);
        dueCover(x, 0, 1, 0, 1);
        dueCover(x, 0, 3, 1, 4);
        tell(x, 0, "     10");
        // GUESS 1/2: TRUE 0 and 1/3
        dueCover(x, 0, 0, 2, 9);
        tell(x, 0, "      1");
        due("cover with guess 1", x.cover(0, 0, 0), LONG_NOT);
        due("cover with guess 1", x.cover(0, 1, 1), LONG_NOT);
        due("cover, no book", x.cover(0, 4, 0), LONG_BAD);
        due("cover, no book", x.cover(0, -1, 0), LONG_BAD);
        due("cover, no taker", x.cover(4, 2, 0), LONG_BAD);
        due("cover, no what", x.cover(0, 2, 2), LONG_BAD);
    }

    private static void promise18() {
        promise = 18;
        WordsKnown x = with("0*2;1*2;f", 10, 20);
        due("easiest without books", x.easiest(0), NONE);
        x.book();
        due("easiest without words in books", x.easiest(0), NONE);
        books(x, row(1, 9), row(9, 1), row(90, 10));
        due("easiest, all 0", x.easiest(0), 1);
        tell(x, 0, "1110");
        due("easiest, of like ones the first", x.easiest(0), 2);
        x.run(0, 0, 1);
        due("easiest, all 1", x.easiest(0), 0);
        tell(x, 0, "    1");
        due("easiest with guess 1", x.easiest(0), NONE);
        due("easiest of another", x.easiest(3), 0);
        due("easiest(4)", x.easiest(4), BAD);
        due("easiest(-1)", x.easiest(-1), BAD);
    }

    private static void promise19() {
        promise = 19;
        WordsKnown x = with("0*2;1*2;f", 10, 20, 4);
        dueLadder(x, 0, 1);
        tell(x, 0, "1110");
        books(x, row(10, 10), row(0, 20), row(0, 1, 3), row(), row(0, 0, 0, 0, 0, 9));
        // COVER: 3/4, 1/2, 1/8, none, 0
        dueLadder(x, 76, 1);
        dueLadder(x, 75, 1, 0);
        dueLadder(x, 51, 1, 0);
        // after the first, 10 of band 1 are met; with the second 30
        dueLadder(x, 50, 1, 0, 1);
        dueLadder(x, 25, 1, 0, 1, 2);
        dueLadder(x, 26, 1, 0, 1);
        // two times the size: band 1 is not learned
        dueLadder(x, 25, 2, 0, 1);
        dueLadder(x, 12, 2, 0, 1, 2);
        dueLadder(x, 0, 9, 0, 1, 2, 4);
        // a band that nobody was asked of is learned too: 4 of band 2 met
        x.run(0, 2, 4);
        dueLadder(x, 50, 1, 0, 2, 1);
        x.run(0, 2, 3);
        dueLadder(x, 50, 1, 0, 1);
        due("ladder far beyond", x.ladder(0, 50, 1, Integer.MAX_VALUE), NONE);
        due("ladder, no taker", x.ladder(4, 50, 1, 0), BAD);
        due("ladder, p", x.ladder(0, 101, 1, 0), BAD);
        due("ladder, p", x.ladder(0, -1, 1, 0), BAD);
        due("ladder, m", x.ladder(0, 0, 0, 0), BAD);
        due("ladder, m", x.ladder(0, 0, 10, 0), BAD);
        due("ladder, i", x.ladder(0, 0, 1, -2), BAD);
        tell(x, 0, "    1");
        due("ladder with guess 1", x.ladder(0, 0, 1, NONE), NOT);
        due("ladder with guess 1", x.ladder(0, 0, 1, 5), NOT);
        due("ladder with guess 1, bad", x.ladder(0, 0, 1, -2), BAD);
        WordsKnown like = with("0", 10);
        tell(like, 0, "1");
        books(like, row(1), row(2), row(1, 1), row(3));
        dueLadder(like, 100, 1, 0, 1, 3);
        dueLadder(like, 50, 1, 0, 1, 3, 2);
        // what was met in two books together
        WordsKnown two = with("0", 10, 20);
        tell(two, 0, "1");
        books(two, row(9, 9), row(9, 11), row(0, 5));
        dueLadder(two, 45, 1, 0, 1, 2);
        dueCover(two, 0, 2, 0, 1);
        two.run(1, 1, 10);
        dueLadder(two, 45, 1, 0, 1);
        dueCover(two, 0, 2, 0, 1);
        two.run(0, 0, 0);
        two.run(1, 0, 0);
        dueLadder(two, 0, 1, 0, 1, 2);
        due("easiest after a ladder", two.easiest(0), 0);
        two.run(2, 0, 1);
        due("easiest after a ladder", two.easiest(0), 2);
        // the first band is learned as the others are
        WordsKnown first = with("1", 3, 9);
        tell(first, 0, "1");
        books(first, row(3, 3), row(7));
        dueLadder(first, 50, 1, 0, 1);
        dueLadder(first, 50, 2, 0);
        // six books, all read
        for (int i = 0; i < 4; i++) books(first, row(0, 1));
        dueLadder(first, 100, 1, 2, 3, 4, 5);
        dueLadder(first, 0, 1, 2, 3, 4, 5, 0, 1);
    }

    private static void dueNext(int want, String text, String says, int... sizes) {
        WordsKnown x = with(text, sizes);
        tell(x, 0, says);
        due("next(0) of " + text + " answered " + says, x.next(0), want);
    }

    private static void promise20() {
        promise = 20;
        WordsKnown x = with("0*5;1*5;2*5", 10);
        due("next(4)", x.next(4), BAD);
        due("next(-1)", x.next(-1), BAD);
        due("next(0)", x.next(0), 0);
        x.band(20);
        x.band(20);
        due("next, nobody asked", x.next(0), 1);
        tell(x, 0, "     1");
        due("next, the greatest without", x.next(0), 2);
        tell(x, 0, "          1");
        due("next, the one without", x.next(0), 0);
        tell(x, 0, "1");
        due("next, of like ones the first", x.next(0), 1);
        tell(x, 0, "      0");
        // 400 * 2 * 2 / (16 * 2 * 3) against 400 * 2 / (9 * 2)
        due("next, the less asked", x.next(0), 2);
        tell(x, 0, "           1");
        // band 1: 2 * 2, band 2: 3 * 1, both by 16 * 2 * 3
        due("next, the more doubtful", x.next(0), 1);
        tell(x, 0, "       101  110");
        // band 0: 100 * 2 / 18 against 400 * 4 * 3 / (49 * 5 * 6) and 400 * 5 * 2 / (49 * 5 * 6)
        due("next, the smaller that was asked less", x.next(0), 0);
        due("next without bands", new WordsKnown().next(0), NONE);
        due("next without bands, bad", new WordsKnown().next(4), BAD);
        dueNext(0, "0*4;1", "00001", 96, 24);
        dueNext(0, "0*4;1", "", 20, 10);
        dueNext(1, "0*4;1", "00001", 95, 24);
        dueNext(0, "0*4;1", "11110", 96, 24);
        dueNext(1, "0*4;1", "11110", 95, 24);
        dueNext(0, "0;1*4", "10000", 24, 96);
        dueNext(1, "0;1*4", "10000", 24, 97);
        dueNext(0, "0*8;1*8", "0000000010000000", 80, 60);
        dueNext(1, "0*8;1*8", "0000000010000000", 79, 60);
        dueNext(1, "0*8;1*8", "1111111111111110", 80, 61);
        dueNext(0, "0*8;1*8", "0000000101111111", 60, 60);
        dueNext(5, "0;1;2;3;4;5", "101010", 9, 9, 9, 9, 9, 10);
        dueNext(5, "0;1;2;3;4;5", "10101", 9, 9, 9, 9, 9, 1);
    }

    private static void promise21() {
        promise = 21;
        WordsKnown x = with("", 10, 40, 20, 20);
        int[][] dealt = {row(0, 0, 0, 0), row(0, 1, 0, 0), row(0, 1, 1, 0), row(0, 1, 1, 1), row(1, 1, 1, 1),
            row(1, 2, 1, 1), row(1, 3, 1, 1), row(1, 3, 2, 1)};
        for (int n = 0; n < dealt.length; n++) {
            for (int band = 0; band < 4; band++) due("deal(" + n + ", " + band + ")", x.deal(n, band), dealt[n][band]);
        }
        int all = 0;
        for (int band = 0; band < 4; band++) all += x.deal(99, band);
        due("deal(99) in all", all, 99);
        due("deal(100, 0)", x.deal(100, 0), BAD);
        due("deal(-1, 0)", x.deal(-1, 0), BAD);
        due("deal(0, 4)", x.deal(0, 4), BAD);
        due("deal(0, NONE)", x.deal(0, NONE), BAD);
        due("deal without bands", new WordsKnown().deal(0, 0), BAD);
        // 3600 by 8 * 9 is as much as 100 by 1 * 2
        x = with("", 60, 10);
        due("deal(9, 0)", x.deal(9, 0), 8);
        due("deal(10, 0), of like ones the first", x.deal(10, 0), 9);
        due("deal(11, 0)", x.deal(11, 0), 9);
        due("deal(11, 1)", x.deal(11, 1), 2);
        x = with("", 10, 60);
        due("deal(9, 0)", x.deal(9, 0), 1);
        due("deal(10, 0), of like ones the first", x.deal(10, 0), 2);
        x = with("", 1, 2, 3, 4, 5, 6);
        for (int band = 0; band < 6; band++) due("deal(6, " + band + ")", x.deal(6, band), 1);
        due("deal(7, 5)", x.deal(7, 5), 2);
    }

    private static void promise22() {
        promise = 22;
        WordsKnown x = with("0*8;f*2", 99);
        tell(x, 0, "1110001 11");
        tell(x, 1, "100011 110");
        duePairs(x, 0, 1, 1, 2, 2, 1);
        tell(x, 1, " 1");
        duePairs(x, 0, 1, 2, 1, 2, 1);
        duePairs(x, 1, 0, 2, 2, 1, 1);
        duePairs(x, 0, 2, 0, 0, 0, 0);
        due("pair with itself", x.pair(0, 0, 0), BAD);
        due("pair, no taker", x.pair(4, 0, 0), BAD);
        due("pair, no taker", x.pair(0, -1, 0), BAD);
        due("pair, no what", x.pair(0, 1, 4), BAD);
        due("pair, no what", x.pair(0, 1, -1), BAD);
        retype(x, "0*3");
        duePairs(x, 0, 1, 2, 1, 0, 0);
        x.answer(0, 0, -1, 5);
        duePairs(x, 0, 1, 1, 1, 0, 0);
        x.asOf(4);
        duePairs(x, 0, 1, 2, 1, 0, 0);
    }

    private static void promise23() {
        promise = 23;
        WordsKnown x = with("0*6;f*2", 99);
        due("alike of none", x.alike(0, 1, 0), LONG_NOT);
        tell(x, 0, "11100011");
        tell(x, 1, "      11");
        due("alike of false ones", x.alike(0, 1, 1), LONG_NOT);
        tell(x, 1, "110000");
        due("alike(0, 1, 0)", x.alike(0, 1, 0), 5);
        due("alike(0, 1, 1)", x.alike(0, 1, 1), 6);
        tell(x, 1, "0");
        due("alike(0, 1, 0)", x.alike(0, 1, 0), 2);
        due("alike(1, 0, 1)", x.alike(1, 0, 1), 3);
        tell(x, 1, "000111");
        due("alike(0, 1, 0)", x.alike(0, 1, 0), 0);
        due("alike(0, 1, 1)", x.alike(0, 1, 1), 1);
        due("alike with itself", x.alike(3, 3, 0), LONG_BAD);
        due("alike, no taker", x.alike(0, 4, 0), LONG_BAD);
        due("alike, no what", x.alike(0, 2, 2), LONG_BAD);
        due("alike, no what", x.alike(0, 2, -1), LONG_BAD);
    }

    private static void dueBetter(int first, int second, int want) {
        WordsKnown x = with("0*9;0*9;0*9;0*9", 99);
        for (int i = 0; i < first + second; i++) {
            x.answer(0, i, i < first ? 1 : 0, 0);
            x.answer(1, i, i < first ? 0 : 1, 0);
        }
        x.answer(0, 35, 1, 0);
        x.answer(1, 35, 1, 0);
        due("better of " + first + " and " + second, x.better(0, 1), want);
        due("better of " + second + " and " + first, x.better(1, 0), want);
    }

    private static void promise24() {
        promise = 24;
        dueBetter(0, 0, 1000000);
        dueBetter(1, 0, 1000000);
        dueBetter(1, 1, 1000000);
        dueBetter(2, 0, 500000);
        dueBetter(2, 1, 1000000);
        dueBetter(3, 0, 250000);
        dueBetter(5, 2, 453125);
        dueBetter(9, 1, 21484);
        dueBetter(12, 12, 1000000);
        dueBetter(24, 0, 0);
        dueBetter(23, 1, 2);
        dueBetter(25, 0, FULL);
        dueBetter(13, 12, FULL);
        WordsKnown x = new WordsKnown();
        due("better(2, 2)", x.better(2, 2), BAD);
        due("better(4, 0)", x.better(4, 0), BAD);
        due("better(0, -1)", x.better(0, -1), BAD);
    }

    private static void promise25() {
        promise = 25;
        WordsKnown x = with("0*6;f*2", 99);
        tell(x, 0, "00110101");
        x.answer(0, 0, 1, 5);
        x.answer(0, 2, 0, 6);
        x.answer(0, 6, 1, 6);
        x.answer(0, 7, 0, 6);
        x.answer(0, 5, -1, 7);
        x.answer(0, 1, 1, 8);
        x.asOf(3);
        int[][] dues = {row(0, 4, 0, 0, 3), row(0, 5, 1, 0, 3), row(0, 6, 1, 1, 2), row(0, 7, 1, 1, 1),
            row(0, 999, 2, 1, 1), row(6, 999, 1, 0, 2), row(8, 8, 0, 0, 3), row(5, 6, 0, 1, 3)};
        for (int[] d : dues) {
            for (int what = 0; what < 3; what++) {
                due("learnt(0, " + d[0] + ", " + d[1] + ", " + what + ")", x.learnt(0, d[0], d[1], what), d[2 + what]);
            }
        }
        due("learnt of another", x.learnt(1, 0, 999, 2), 0);
        due("learnt, back in time", x.learnt(0, 5, 4, 0), BAD);
        due("learnt, no taker", x.learnt(4, 0, 0, 0), BAD);
        due("learnt, no time", x.learnt(0, -1, 0, 0), BAD);
        due("learnt, no time", x.learnt(0, 0, 1000, 0), BAD);
        due("learnt, no what", x.learnt(0, 0, 0, 3), BAD);
        due("learnt, no what", x.learnt(0, 0, 0, -1), BAD);
        retype(x, "0");
        due("learnt of words that are there", x.learnt(0, 0, 999, 0), 1);
        due("learnt of words that are there", x.learnt(0, 0, 999, 2), 0);
    }

    private static void promise26() {
        promise = 26;
        WordsKnown x = new WordsKnown();
        due("sheet(4, 0, 1)", x.sheet(4, 0, 1), BAD);
        due("sheet(-1, 0, 1)", x.sheet(-1, 0, 1), BAD);
        due("sheet(0, 3, 1)", x.sheet(0, 3, 1), BAD);
        due("sheet(0, -1, 1)", x.sheet(0, -1, 1), BAD);
        due("sheet(0, 0, 61)", x.sheet(0, 0, 61), BAD);
        due("sheet(4, 0, -1)", x.sheet(4, 0, -1), BAD);
        due("sheet(0, 3, -1)", x.sheet(0, 3, -1), BAD);
        due("count(8)", x.count(8), 0);
        due("sheet(0, 0, -1)", x.sheet(0, 0, -1), SIZE);
        due("count(8)", x.count(8), 5);
        due("lose(0)", x.lose(0), NULL);
        due("sheet(0, 2, 60)", x.sheet(0, 2, 60), 60);
        x.lay(0, 2, 1, 9);
        due("sheet(0, 2, MIN)", x.sheet(0, 2, Integer.MIN_VALUE), SIZE);
        due("get(0, 2, 1)", x.get(0, 2, 1), 9);
        due("sheet(0, 1, 3)", x.sheet(0, 1, 3), 3);
        dueItems(x, 0, 1, 0, 0, 0);
        due("sheet(3, 0, 0)", x.sheet(3, 0, 0), 0);
        due("lose(3)", x.lose(3), 0);
    }

    private static void promise27() {
        promise = 27;
        WordsKnown x = new WordsKnown();
        due("lose(4)", x.lose(4), BAD);
        due("lose(-1)", x.lose(-1), BAD);
        due("count(8)", x.count(8), 0);
        due("lose(1)", x.lose(1), NULL);
        due("count(8)", x.count(8), 1);
        x.sheet(1, 0, 7);
        due("lose(1)", x.lose(1), 7);
        due("lose(1)", x.lose(1), NULL);
        due("get(1, 0, 0)", x.get(1, 0, 0), Integer.MIN_VALUE);
    }

    private static void promise28() {
        promise = 28;
        WordsKnown x = new WordsKnown();
        due("lay, no sheet", x.lay(4, 0, 0, 0), BAD);
        due("lay, no form", x.lay(0, 3, 0, 0), BAD);
        due("lay, no form", x.lay(0, -1, 0, 0), BAD);
        due("lay, lost", x.lay(0, 0, 0, 0), NULL);
        x.sheet(0, 0, 2);
        x.sheet(1, 1, 2);
        x.sheet(2, 2, 2);
        due("lay, another form, no item", x.lay(0, 1, 9, 0), CAST);
        due("count(8)", x.count(8), 3);
        due("lay, no item", x.lay(0, 0, 2, 0), INDEX);
        due("count(8)", x.count(8), 2);
        due("lay, no item", x.lay(0, 0, -1, 0), INDEX);
        due("lay, no form in a row that is there", x.lay(0, 3, 0, 0), BAD);
        int[] laid = row(0x12345678, 200, -129, 0xFFFF8000);
        int[] bytes = row(0x78, -56, 127, 0);
        int[] shorts = row(0x5678, 200, -129, -32768);
        for (int i = 0; i < laid.length; i++) {
            for (int form = 0; form < 3; form++) due("lay", x.lay(form, form, 1, laid[i]), 1);
            dueItems(x, 0, 0, 0, bytes[i]);
            dueItems(x, 1, 1, 0, shorts[i]);
            dueItems(x, 2, 2, 0, laid[i]);
        }
    }

    private static void promise29() {
        promise = 29;
        WordsKnown x = new WordsKnown();
        int least = Integer.MIN_VALUE;
        due("get, no sheet", x.get(4, 0, 0), least);
        due("get, no form", x.get(0, 3, 0), least);
        due("count(8)", x.count(8), 0);
        due("get, lost", x.get(0, 0, 0), least);
        due("count(8)", x.count(8), 1);
        x.sheet(0, 2, 2);
        due("get, another form, no item", x.get(0, 0, 5), least);
        due("count(8)", x.count(8), 3);
        due("get, no item", x.get(0, 2, 2), least);
        due("count(8)", x.count(8), 2);
        x.lose(1);
        due("get, no item", x.get(0, 2, -1), least);
        due("count(8)", x.count(8), 2);
        x.lay(0, 2, 0, -5);
        due("get(0, 2, 0)", x.get(0, 2, 0), -5);
        due("count(8)", x.count(8), 2);
    }

    private static void promise30() {
        promise = 30;
        WordsKnown x = new WordsKnown();
        due("copy, no sheet", x.copy(4, 0, 0, 0, 0), BAD);
        due("copy, no sheet", x.copy(0, 0, -1, 0, 0), BAD);
        due("copy, lost", x.copy(0, 0, 1, 0, 0), NULL);
        x.sheet(0, 2, 5);
        due("copy, the other lost", x.copy(0, 0, 1, 0, -1), NULL);
        due("copy, the one lost", x.copy(1, 0, 0, 0, 0), NULL);
        x.sheet(1, 1, 5);
        due("copy, unlike forms, below 0", x.copy(0, -1, 1, 0, 0), STORE);
        due("count(8)", x.count(8), 4);
        x.sheet(1, 2, 4);
        for (int i = 0; i < 5; i++) x.lay(0, 2, i, i + 1);
        due("copy, i below 0", x.copy(0, -1, 1, 0, 1), INDEX);
        due("copy, j below 0", x.copy(0, 0, 1, -1, 1), INDEX);
        due("copy, n below 0", x.copy(0, 0, 1, 0, -1), INDEX);
        due("copy, too many there", x.copy(0, 0, 1, 0, 5), INDEX);
        due("copy, too many here", x.copy(1, 2, 0, 0, 3), INDEX);
        due("copy, a sum that wraps", x.copy(0, 1, 1, 0, Integer.MAX_VALUE), INDEX);
        due("copy, an index far beyond", x.copy(0, Integer.MAX_VALUE, 1, 0, 1), INDEX);
        due("copy, an index far beyond", x.copy(0, 0, 1, Integer.MAX_VALUE, 1), INDEX);
        due("copy of none at the ends", x.copy(0, 5, 1, 4, 0), 1);
        due("copy of none beyond", x.copy(0, 6, 1, 0, 0), INDEX);
        due("copy of none beyond", x.copy(0, 0, 1, 5, 0), INDEX);
        dueItems(x, 1, 2, 0, 0, 0, 0);
        due("copy", x.copy(0, 1, 1, 2, 2), 1);
        dueItems(x, 1, 2, 0, 0, 2, 3);
        dueItems(x, 0, 2, 1, 2, 3, 4, 5);
        due("copy onto itself, up", x.copy(0, 0, 0, 1, 4), 1);
        dueItems(x, 0, 2, 1, 1, 2, 3, 4);
        due("copy onto itself, down", x.copy(0, 2, 0, 0, 3), 1);
        dueItems(x, 0, 2, 2, 3, 4, 3, 4);
    }

    private static void promise31() {
        promise = 31;
        WordsKnown x = with("0*3;f", 9);
        tell(x, 2, "1 0 1");
        due("write, no taker", x.write(4, 0), BAD);
        due("write, no sheet", x.write(0, 4), BAD);
        due("count(8)", x.count(8), 0);
        due("write, lost", x.write(2, 0), NULL);
        due("count(8)", x.count(8), 1);
        x.sheet(0, 0, 6);
        x.lay(0, 0, 4, 9);
        x.lay(0, 0, 5, 9);
        due("write(2, 0)", x.write(2, 0), 4);
        dueItems(x, 0, 0, 1, -1, 0, -1, 9, 9);
        x.sheet(1, 2, 2);
        due("write(2, 1)", x.write(2, 1), 2);
        dueItems(x, 1, 2, 1, -1);
        x.answer(2, 0, 0, 9);
        x.asOf(8);
        x.sheet(1, 1, 1);
        due("write(2, 1)", x.write(2, 1), 1);
        dueItems(x, 1, 1, 1);
        x.asOf(9);
        x.write(2, 1);
        dueItems(x, 1, 1, 0);
        x.wipe();
        due("write without words", x.write(2, 0), 0);
        dueItems(x, 0, 0, 1, -1, 0, -1, 9, 9);
    }

    private static void promise32() {
        promise = 32;
        WordsKnown x = with("0*3;f*2", 9, 21);
        tell(x, 0, "1-0 1 1");
        tell(x, 3, "1");
        x.answer(3, 1, 1, 400);
        x.book();
        x.asOf(399);
        x.sheet(0, 0, -1);
        int[] counts = row(2, 1, 7, 5, 7, 4, 30, 399, 5);
        for (int what = 0; what <= 8; what++) due("count(" + what + ")", x.count(what), counts[what]);
        due("count(9)", x.count(9), BAD);
        due("count(-1)", x.count(-1), BAD);
        x.asOf(400);
        due("count(5)", x.count(5), 5);
        type(x, "?");
        due("count(3) with a fault", x.count(3), 0);
        due("count(5) with a fault", x.count(5), 0);
    }

    private static long digestByCalls(WordsKnown x) {
        long h = 17;
        for (int what = 0; what <= 7; what++) h = 31 * h + x.count(what);
        h = 31 * h + x.fault();
        for (int t = 0; t < 4; t++) {
            for (int what = 0; what < 2; what++) h = 31 * h + x.asked(t, NONE, what);
            for (int b = 0; b < x.count(0); b++) {
                for (int what = 0; what < 2; what++) h = 31 * h + x.asked(t, b, what);
                for (int which = 0; which < 2; which++) {
                    for (int what = 0; what < 2; what++) h = 31 * h + x.share(t, b, which, what);
                }
            }
            for (int which = 0; which < 2; which++) {
                for (int what = 0; what < 2; what++) h = 31 * h + x.knows(t, which, what);
            }
            for (int book = 0; book < x.count(1); book++) {
                for (int what = 0; what < 2; what++) h = 31 * h + x.cover(t, book, what);
            }
            h = 31 * h + x.easiest(t);
            h = 31 * h + x.ladder(t, 50, 2, NONE);
            h = 31 * h + x.next(t);
        }
        for (int b = 0; b < x.count(0); b++) h = 31 * h + x.deal(20, b);
        for (int what = 0; what < 4; what++) h = 31 * h + x.pair(0, 1, what);
        return 31 * h + x.better(0, 1);
    }

    private static WordsKnown forDigest() {
        WordsKnown x = with("0*3;1*4;2;f*3", 9, 21, 50, 99);
        tell(x, 0, "1101101100");
        tell(x, 1, "10101011111");
        x.answer(3, 0, 0, 1);
        x.answer(3, 2, 1, 2);
        for (int word = 7; word < 11; word++) x.answer(3, word, 1, 2);
        books(x, row(10, 20), row(0, 5, 3), row(), row(1, 2, 3, 4, 5, 6));
        return x;
    }

    private static void promise33() {
        promise = 33;
        WordsKnown x = new WordsKnown();
        due("digest() of a new object", x.digest(), digestByCalls(x));
        due("digest() of a new object", x.digest(), -1995736755919490855L);
        x = forDigest();
        long before = x.digest();
        due("digest()", before, digestByCalls(x));
        x.lose(0);
        due("digest() after a finding", x.digest(), before);
        x = forDigest();
        x.asOf(0);
        due("digest() as of another time", x.digest(), digestByCalls(x));
        due("digest() as of another time is another one", x.digest() == before ? 1 : 0, 0);
        x = with("0*3", 2, 4);
        tell(x, 0, "111");
        tell(x, 1, "001");
        tell(x, 2, "1");
        books(x, row(10, 8), row(0, 1));
        due("ladder(0, 50, 2, NONE)", x.ladder(0, 50, 2, NONE), 2);
        due("ladder(0, 50, 3, NONE)", x.ladder(0, 50, 3, NONE), 1);
        due("better(0, 1)", x.better(0, 1), 500000);
        due("digest() of books that teach", x.digest(), digestByCalls(x));
    }

    /** Every refusal leaves all as it was. */
    private static void refusalsChangeNothing() {
        promise = 0;
        WordsKnown x = with("0*3;1*4;f*3", 9, 21);
        tell(x, 0, "1101101100");
        books(x, row(10, 20));
        x.sheet(0, 0, 3);
        x.sheet(1, 1, 3);
        long before = x.digest();
        int[] odd = {Integer.MIN_VALUE, -100, -2, 1000, Integer.MAX_VALUE};
        for (int v : odd) {
            x.band(v);
            x.run(v, 0, 0);
            x.run(0, v, 0);
            x.run(0, 0, v);
            x.type(v == 1000 ? 256 : v);
            x.answer(v, 0, 0, 0);
            x.answer(0, v, 0, 0);
            x.answer(0, 0, v, 0);
            x.answer(0, 0, 0, v);
            x.read(v, 0, 0);
            x.read(0, v, 0);
            x.read(0, 0, v);
            x.asOf(v);
            x.sheet(v, 0, 0);
            x.sheet(0, v, 0);
            x.sheet(0, 0, v);
            x.lose(v);
            x.lay(0, 0, v, 1);
            x.copy(0, v, 0, 0, 1);
            x.copy(0, 0, 1, 0, 1);
            x.write(v, 0);
            x.write(0, v);
        }
        due("digest() after refusals", x.digest(), before);
        dueItems(x, 0, 0, 0, 0, 0);
        dueItems(x, 1, 1, 0, 0, 0);
        due("answer at time 0", x.answer(0, 0, 1, 0), 11);
    }

    private static void promises1To16() {
        promise1();
        promise2();
        promise3();
        promise4();
        promise5();
        promise6();
        promise7();
        promise8();
        promise9();
        promise10();
        promise11();
        promise12();
        promise13();
        promise14();
        promise15();
        promise16();
    }

    private static void promises17To33() {
        promise17();
        promise18();
        promise19();
        promise20();
        promise21();
        promise22();
        promise23();
        promise24();
        promise25();
        promise26();
        promise27();
        promise28();
        promise29();
        promise30();
        promise31();
        promise32();
        promise33();
    }

    public static void main(String[] args) {
        promises1To16();
        promises17To33();
        refusalsChangeNothing();
        System.out.println(checks + " checks, " + wrong + " wrong");
        if (wrong != 0 || checks < 400) System.exit(1);
    }
}
