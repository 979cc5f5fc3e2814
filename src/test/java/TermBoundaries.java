import java.math.BigInteger;

// Each sentence of "What it is" and of "Terms" that names a boundary has a test of its own, that names it:
// what is still taken and what no more, the empty and the full, what is NOT and what is NONE.
public final class TermBoundaries extends Checks {

    // ======== 1: bands, books, takers

    private static void bands() {
        sentence("BANDS, 6 at most (0 on)");
        WordsKnown x = new WordsKnown();
        due("count(0), empty", x.count(0), 0);
        for (int i = 0; i < 6; i++) due("band(7)", x.band(7), i);
        due("the seventh band(7)", x.band(7), FULL);
        due("count(0), full", x.count(0), 6);
        due("count(6), full", x.count(6), 42);
        due("deal(0, 5)", x.deal(0, 5), 0);
        due("deal(0, 6)", x.deal(0, 6), BAD);

        sentence("have a SIZE (1 to 99 words)");
        dueTaken("band", 1, 99, BAD, v -> new WordsKnown().band(v));
        x = with("", 1, 99);
        due("count(6) of SIZES 1 and 99", x.count(6), 100);
    }

    private static void calls() {
        sentence("An object is used for at most 512 calls after it has been made");
        WordsKnown x = new WordsKnown();
        for (int i = 0; i < 6; i++) x.band(99 - i);
        for (int i = 0; i < 252; i++) {
            due("asOf(" + i % 7 + ")", x.asOf(i % 7), i == 0 ? 999 : (i - 1) % 7);
            x.deal(99, i % 6);
        }
        due("deal(6, 5) as the 511th call", x.deal(6, 5), 1);
        due("count(7) as the 512th call", x.count(7), 251 % 7);
        x = new WordsKnown();
        for (int i = 1; i < 512; i++) x.digest();
        due("digest() as the 512th call", x.digest(), new WordsKnown().digest());
    }

    private static void books() {
        sentence("BOOKS, 6 at most:");
        WordsKnown x = new WordsKnown();
        due("count(1), empty", x.count(1), 0);
        for (int i = 0; i < 6; i++) due("book()", x.book(), i);
        due("the seventh book()", x.book(), FULL);
        due("count(1), full", x.count(1), 6);
        due("run(5, 0, 1)", x.run(5, 0, 1), 0);
        due("run(6, 0, 1)", x.run(6, 0, 1), BAD);

        sentence("of each BAND so many RUNNING words (0 to 99; 0 at first)");
        for (int book = 0; book < 6; book++) {
            for (int band = 0; band < 6; band++) due("run at first", new6Books().run(book, band, 9), 0);
        }
        dueTaken("run", 0, 99, BAD, v -> new6Books().run(5, 5, v));
        x = new6Books();
        x.run(2, 3, 99);
        due("run(2, 3, 0) after 99", x.run(2, 3, 0), 99);
        due("run(2, 3, 1) after 0", x.run(2, 3, 1), 0);
        due("run(3, 2, 1), of another", x.run(3, 2, 1), 0);
    }

    private static WordsKnown new6Books() {
        WordsKnown x = new WordsKnown();
        for (int i = 0; i < 6; i++) x.book();
        return x;
    }

    private static void takers() {
        sentence("TAKERS are 0 to 3");
        dueTaken("answer", 0, 3, BAD, v -> rich().answer(v, 0, 1, 0));
        dueTaken("read", 0, 3, BAD, v -> rich().read(0, v, 0));
        dueTaken("asked", 0, 3, BAD, v -> rich().asked(v, 0, 0));
        dueTaken("share", 0, 3, LONG_BAD, v -> rich().share(v, 0, 0, 0));
        dueTaken("knows", 0, 3, LONG_BAD, v -> rich().knows(v, 0, 0));
        dueTaken("may", 0, 3, BAD, v -> rich().may(v, 0, 0, 0));
        dueTaken("likeliest", 0, 3, BAD, v -> rich().likeliest(v, 0, 0));
        dueTaken("cover", 0, 3, LONG_BAD, v -> rich().cover(v, 0, 0));
        dueTaken("easiest", 0, 3, BAD, v -> rich().easiest(v));
        dueTaken("ladder", 0, 3, BAD, v -> rich().ladder(v, 0, 1, NONE));
        dueTaken("next", 0, 3, BAD, v -> rich().next(v));
        dueTaken("the first of pair", 0, 3, BAD, v -> rich().pair(v, 1, 0));
        dueTaken("the second of pair", 0, 3, BAD, v -> rich().pair(1, v, 0));
        dueTaken("the first of alike", 0, 3, LONG_BAD, v -> rich().alike(v, 1, 0));
        dueTaken("the second of alike", 0, 3, LONG_BAD, v -> rich().alike(1, v, 0));
        dueTaken("the first of better", 0, 3, BAD, v -> rich().better(v, 1));
        dueTaken("the second of better", 0, 3, BAD, v -> rich().better(1, v));
        dueTaken("learnt", 0, 3, BAD, v -> rich().learnt(v, 0, 0, 0));
        dueTaken("write", 0, 3, BAD, v -> rich().write(v, 0));
    }

    // ======== 1: the list

    private static void bytesOfTheList() {
        sentence("THE LIST is a text of up to 80 bytes");
        WordsKnown x = new WordsKnown();
        due("count(2), empty", x.count(2), 0);
        for (int i = 1; i <= 80; i++) due("type('f')", x.type('f'), i);
        due("the 81st type('f')", x.type('f'), FULL);
        due("count(2), full", x.count(2), 80);
        due("wipe(), full", x.wipe(), 80);
        due("type('f') after it", x.type('f'), 1);

        sentence("parts with ; between them");
        dueFault("0;f", NONE, 9);
        dueFault(";", 0, 9);
        dueFault(";0", 0, 9);
        dueFault("0;;0", 2, 9);
        dueFault("0f", 1, 9);
        dueFault("0*2f", 3, 9);
        dueFault("0:f", 1, 9);
        dueFault("0*2<f", 3, 9);

        sentence("the figure of a BAND, or f (FALSE words)");
        for (int band = 0; band < 6; band++) due("word(0) of '" + band + "'", with("" + band, 1, 1, 1, 1, 1, 1).word(0), band);
        due("word(0) of 'f'", with("f").word(0), 6);
        for (char c : new char[] {'/', '6', '7', '9', ':', 'e', 'g', 'F', '*', ' ', 0, 255}) {
            dueFault("" + c, 0, 1, 1, 1, 1, 1, 1);
        }

        sentence("perhaps * and a figure (2 to 9): so many WORDS");
        due("count(3) of 'f', without *", with("f").count(3), 1);
        for (int n = 2; n <= 9; n++) due("count(3) of 'f*" + n + "'", with("f*" + n).count(3), n);
        for (char c : new char[] {'0', '1', '/', ':', 'f', ';', '*', 0, 255}) dueFault("f*" + c, 2);
        dueFault("f*22", 3);
        dueFault("f*9*9", 3);
    }

    private static void wordsOfTheList() {
        sentence("one behind the other, numbered from 0 on; 40 at most");
        WordsKnown x = with("0;1*2;f;0*2", 9, 9);
        int[] kinds = {0, 1, 1, 6, 0, 0, NONE, NONE};
        for (int i = 0; i < kinds.length; i++) due("word(" + i + ")", x.word(i), kinds[i]);
        x = with("0*9;0*9;0*9;0*9;0*3;f", 9);
        due("count(3), full", x.count(3), 40);
        due("fault(), full", x.fault(), NONE);
        due("word(38)", x.word(38), 0);
        due("word(39)", x.word(39), 6);
        type(x, ";f");
        due("count(3) of 41", x.count(3), 0);

        sentence("The FAULT is the place of the first byte with which it cannot go on");
        dueFault("x", 0);
        dueFault("f;x", 2);
        dueFault("f*x", 2);
        dueFault("fx;x", 1);
        dueFault("f;x;x", 2);
        dueFault("f*2x;;", 3);
        dueFault("f;".repeat(39) + "f", NONE);
        dueFault("f;".repeat(39) + "fx", 79);
        dueFault("f;".repeat(39) + "ff", 79);

        sentence("(an empty text is well: no WORDS;");
        x = new WordsKnown();
        due("fault() of a new object", x.fault(), NONE);
        due("count(3) of a new object", x.count(3), 0);
        due("word(0) of a new object", x.word(0), NONE);
        type(x, "?");
        due("fault() of '?'", x.fault(), 0);
        x.wipe();
        due("fault() after wipe()", x.fault(), NONE);
        due("count(3) after wipe()", x.count(3), 0);

        sentence("of one that is not ended, as behind a ;, its end)");
        dueFault("f;", 2);
        dueFault("f*", 2);
        dueFault("f*9;", 4);
        dueFault("f;f*", 4);
        dueFault("f*9;f*9;f*9;f*9;f*4;", 20);
        dueFault("f;".repeat(39) + "f;", 80);
        dueFault("f;".repeat(39) + "f*", 80);
    }

    private static void faults() {
        sentence("of the figure of a BAND that there is not,");
        int[] sizes = {};
        for (int bands = 0; bands <= 6; bands++) {
            sizes = new int[bands];
            java.util.Arrays.fill(sizes, 9);
            dueFault("" + bands, 0, sizes);
            dueFault("f;" + bands + "*x", 2, sizes);
            if (bands > 0) dueFault("f;" + (bands - 1), NONE, sizes);
        }
        WordsKnown x = with("f;1*3", 9);
        due("fault() without BAND 1", x.fault(), 2);
        x.band(9);
        due("fault() with BAND 1", x.fault(), NONE);
        due("count(3) with BAND 1", x.count(3), 4);

        sentence("or of the first byte of a part with which there would be more than 40 WORDS");
        String words36 = "0*9;0*9;0*9;0*9;";
        dueFault(words36 + "0*4", NONE, 9);
        dueFault(words36 + "0*5", 16, 9);
        dueFault(words36 + "0*9", 16, 9);
        dueFault(words36 + "0*5x", 16, 9);
        dueFault(words36 + "0*5;x", 16, 9);
        dueFault(words36 + "0*2;f*2", NONE, 9);
        dueFault(words36 + "0*2;f*3", 20, 9);
        dueFault(words36 + "0*3;f", NONE, 9);
        dueFault(words36 + "0*3;f*2", 20, 9);
        dueFault(words36 + "0*4;f", 20, 9);
        dueFault(words36 + "0*4;f;f", 20, 9);
        dueFault(words36 + "0*4;f*9", 20, 9);
        dueFault("f;".repeat(38) + "f*2", NONE);
        dueFault("f;".repeat(38) + "f*3", 76);
        dueFault("f*2;".repeat(19) + "f*2", NONE);
        dueFault("f*2;".repeat(19) + "f*3", 76);
    }

    private static void noWordsWithAFault() {
        sentence("With a FAULT there are no WORDS");
        WordsKnown x = told("0*3;f*2", "11011", 9);
        tell(x, 1, "10110");
        book(x, 9);
        x.sheet(0, 0, 9);
        due("count(5)", x.count(5), 10);
        type(x, ";");
        due("fault()", x.fault(), 8);
        due("count(3)", x.count(3), 0);
        due("count(4)", x.count(4), 10);
        due("count(5)", x.count(5), 0);
        due("word(0)", x.word(0), NONE);
        dueAsked(x, 0, 0, 0, 0);
        dueAsked(x, 0, NONE, 0, 0);
        due("share(0, 0, 0, 0)", x.share(0, 0, 0, 0), LONG_NOT);
        dueKnows(x, 0, 0, 0, 1);
        due("knows(0, 1, 0)", x.knows(0, 1, 0), LONG_NOT);
        due("may(0, 0, 0, 0)", x.may(0, 0, 0, 0), NOT);
        due("likeliest(0, 0, 0)", x.likeliest(0, 0, 0), NOT);
        dueCover(x, 0, 0, 0, 1);
        duePairs(x, 0, 1, 0, 0, 0, 0);
        due("alike(0, 1, 0)", x.alike(0, 1, 0), LONG_NOT);
        due("better(0, 1)", x.better(0, 1), 1000000);
        dueLearnt(x, 0, 0, 999, 0, 0, 0);
        due("write(0, 0)", x.write(0, 0), 0);
        type(x, "f");
        due("count(3) as it goes on", x.count(3), 6);
        due("count(5) as it goes on", x.count(5), 10);
        dueAsked(x, 0, 0, 3, 2);
    }

    // ======== 1: answers

    private static void answers() {
        sentence("ANSWERS, 120 at most");
        WordsKnown x = with("0", 9);
        due("count(4), empty", x.count(4), 0);
        for (int i = 1; i <= 120; i++) due("answer(0, 0, 1, 0)", x.answer(0, 0, 1, 0), i);
        due("the 121st answer(0, 0, 0, 0)", x.answer(0, 0, 0, 0), FULL);
        due("count(4), full", x.count(4), 120);
        dueAsked(x, 0, 0, 1, 1);

        sentence("a TAKER says of a WORD's number (0 to 39, whether it is there or not)");
        dueTaken("answer of a WORD, none there", 0, 39, BAD, v -> new WordsKnown().answer(0, v, 1, 0));
        dueTaken("answer of a WORD", 0, 39, BAD, v -> rich().answer(0, v, 1, 0));
        x = with("", 9);
        due("answer(2, 39, 1, 0)", x.answer(2, 39, 1, 0), 1);
        due("count(4)", x.count(4), 1);
        due("count(5)", x.count(5), 0);
        dueAsked(x, 2, 0, 0, 0);
        type(x, "0*9;0*9;0*9;0*9;0*3");
        dueAsked(x, 2, 0, 0, 0);
        type(x, ";0");
        dueAsked(x, 2, 0, 1, 1);

        sentence("1 (known), 0 (not), or takes it back (-1)");
        dueTaken("answer that says", -1, 1, BAD, v -> rich().answer(0, 0, v, 0));
        x = with("0", 9);
        int[][] rows = {{1, 1, 1}, {0, 1, 0}, {-1, 0, 0}, {-1, 0, 0}, {0, 1, 0}, {1, 1, 1}, {-1, 0, 0}};
        for (int[] r : rows) {
            x.answer(0, 0, r[0], 0);
            dueAsked(x, 0, 0, r[1], r[2]);
        }
    }

    private static void times() {
        sentence("told at a TIME (0 to 999; not less than the one ahead)");
        dueTaken("answer at a TIME", 0, 999, BAD, v -> new WordsKnown().answer(0, 0, 1, v));
        dueTaken("answer at a TIME behind 500", 500, 999, BAD, v -> at500().answer(3, 39, 1, v));
        due("answer one less than the one ahead", at500().answer(0, 0, 1, 499), BAD);
        WordsKnown x = at500();
        due("answer(1, 1, 1, 999)", x.answer(1, 1, 1, 999), 2);
        due("answer(0, 0, 1, 998)", x.answer(0, 0, 1, 998), BAD);
        due("answer(0, 0, 1, 999)", x.answer(0, 0, 1, 999), 3);

        sentence("AS OF a TIME (999 at first) what was told last of it up to then is so");
        x = with("0", 9);
        due("count(7)", x.count(7), 999);
        x.answer(0, 0, 0, 0);
        x.answer(0, 0, 1, 0);
        x.answer(0, 0, 0, 5);
        x.answer(0, 0, -1, 6);
        x.answer(0, 0, 1, 999);
        int[][] rows = {{999, 1, 1}, {998, 0, 0}, {6, 0, 0}, {5, 1, 0}, {4, 1, 1}, {0, 1, 1}};
        for (int[] r : rows) {
            x.asOf(r[0]);
            dueAsked(x, 0, 0, r[1], r[2]);
        }
        x = with("0", 9);
        x.asOf(4);
        x.answer(0, 0, 1, 5);
        dueAsked(x, 0, 0, 0, 0);
        x.asOf(5);
        dueAsked(x, 0, 0, 1, 1);
        x.answer(0, 0, 0, 5);
        dueAsked(x, 0, 0, 1, 0);
        dueTaken("asOf", 0, 999, BAD, v -> new WordsKnown().asOf(v));
        x = with("0*4", 9);
        for (int i = 0; i < 8; i++) x.answer(i % 4, i % 4, 1 - i / 4, i);
        for (int time = 7; time >= 0; time--) {
            x.asOf(time);
            for (int taker = 0; taker < 4; taker++) dueAsked(x, taker, 0, time < taker ? 0 : 1, time < taker || time >= taker + 4 ? 0 : 1);
        }
    }

    private static WordsKnown at500() {
        WordsKnown x = new WordsKnown();
        x.answer(0, 0, 1, 500);
        return x;
    }

    // ======== 1: fractions, sheets, findings

    private static void fractions() {
        sentence("FRACTIONS are told in lowest terms, above and below (0 by 1)");
        WordsKnown x = told("0*8;f*8", "1111110011000000", 12);
        book(x, 50, 10);
        dueShare(x, 0, 0, 0, 3, 4);
        dueShare(x, 0, 0, 1, 2, 3);
        dueKnows(x, 0, 0, 1, 4);
        dueKnows(x, 0, 1, 8, 1);
        dueCover(x, 0, 0, 5, 9);
        tell(x, 1, "1111");
        dueAlike(x, 0, 1, 1, 1);
        tell(x, 1, "0000");
        dueAlike(x, 0, 1, 0, 1);
        tell(x, 1, "    1100");
        dueAlike(x, 0, 1, 1, 2);
        tell(x, 0, "0000000000000000");
        dueShare(x, 0, 0, 0, 0, 1);
        dueShare(x, 0, 0, 1, 0, 1);
        dueKnows(x, 0, 0, 0, 1);
        dueKnows(x, 0, 1, 0, 1);
        dueCover(x, 0, 0, 0, 1);
        tell(x, 0, "11111111");
        dueShare(x, 0, 0, 0, 1, 1);
        dueShare(x, 0, 0, 1, 1, 1);
    }

    private static void sheets() {
        sentence("SHEETS 0 .. 3 are LOST (at first)");
        for (int s = 0; s < 4; s++) due("lose(" + s + ") at first", new WordsKnown().lose(s), NULL);
        dueTaken("sheet", 0, 3, BAD, v -> rich().sheet(v, 0, 1));
        dueTaken("lose", 0, 3, BAD, v -> rich().lose(v));
        dueTaken("lay", 0, 3, BAD, v -> rich().lay(v, 0, 0, 1));
        dueTaken("get", 0, 3, LEAST_INT, v -> rich().get(v, 0, 0));
        dueTaken("the first of copy", 0, 3, BAD, v -> rich().copy(v, 0, 1, 0, 1));
        dueTaken("the second of copy", 0, 3, BAD, v -> rich().copy(1, 0, v, 0, 1));
        dueTaken("read", 0, 3, BAD, v -> rich().read(v, 0, 0));
        dueTaken("write", 0, 3, BAD, v -> rich().write(0, v));
        WordsKnown x = rich();
        x.lay(2, 0, 0, 7);
        for (int s = 0; s < 4; s++) due("get(" + s + ", 0, 0)", x.get(s, 0, 0), s == 2 ? 7 : 0);

        sentence("or a row of a FORM: 0 bytes, 1 shorts, 2 ints");
        dueTaken("sheet of a FORM", 0, 2, BAD, v -> rich().sheet(0, v, 1));
        int[] laid = {127, 128, -128, -129, 255, 256, 32767, 32768, -32768, -32769, 65535, 65536, MOST_INT, LEAST_INT};
        int[] bytes = {127, -128, -128, 127, -1, 0, -1, 0, 0, -1, -1, 0, -1, 0};
        int[] shorts = {127, 128, -128, -129, 255, 256, 32767, -32768, -32768, 32767, -1, 0, -1, 0};
        for (int form = 0; form < 3; form++) {
            x = new WordsKnown();
            lay(x, 0, form, laid);
            dueItems(x, 0, form, form == 0 ? bytes : form == 1 ? shorts : laid);
        }

        sentence("of 0 to 60 items (0 at first)");
        for (int form = 0; form < 3; form++) {
            x = new WordsKnown();
            due("sheet of 0 items", x.sheet(0, form, 0), 0);
            due("get of the first of 0 items", x.get(0, form, 0), LEAST_INT);
            due("sheet of 60 items", x.sheet(0, form, 60), 60);
            for (int i = 0; i < 60; i++) due("item " + i + " at first", x.get(0, form, i), 0);
            due("get of the 61st of 60 items", x.get(0, form, 60), LEAST_INT);
            for (int i = 0; i < 60; i++) due("lay", x.lay(0, form, i, 5), 1);
            x.sheet(0, form, 60);
            for (int i = 0; i < 60; i++) due("item " + i + " of a new row", x.get(0, form, i), 0);
            due("sheet of 61 items", x.sheet(0, form, 61), BAD);
        }
    }

    private static void dueFinding(String call, long got, int finding, WordsKnown x) {
        due(call, got, -10 - finding);
        due("count(8) after " + call, x.count(8), finding);
    }

    private static void findings() {
        sentence("FINDINGS (answers -10 less the number; they change nothing but count() 8)");
        WordsKnown x = told("0*2", "10", 9);
        lay(x, 0, 0, 5, 6);
        lay(x, 1, 1, 7);
        long before = x.digest();
        due("count(8) before any", x.count(8), 0);
        dueFinding("sheet(0, 1, -1)", x.sheet(0, 1, -1), 5, x);
        dueFinding("copy(0, 0, 1, 0, 1)", x.copy(0, 0, 1, 0, 1), 4, x);
        dueFinding("lay(0, 1, 0, 9)", x.lay(0, 1, 0, 9), 3, x);
        dueFinding("lay(0, 0, 2, 9)", x.lay(0, 0, 2, 9), 2, x);
        dueFinding("write(0, 2)", x.write(0, 2), 1, x);
        due("digest()", x.digest(), before);
        dueItems(x, 0, 0, 5, 6);
        dueItems(x, 1, 1, 7);
        due("count(8) after acts that fit", x.count(8), 1);

        sentence("1 NULL: the SHEET is LOST");
        x = new WordsKnown();
        dueFinding("lay(0, 0, 0, 0)", x.lay(0, 0, 0, 0), 1, x);
        x.sheet(0, 0, 1);
        due("lay(0, 0, 0, 0) of a row", x.lay(0, 0, 0, 0), 1);
        x.lose(0);
        dueFinding("lay(0, 0, 0, 0) of a row that was lost", x.lay(0, 0, 0, 0), 1, x);

        sentence("2 INDEX: there is no such item");
        x.sheet(0, 0, 2);
        dueTaken("item", 0, 1, INDEX, v -> lay2().lay(0, 0, v, 1));
        dueFinding("lay(0, 0, 2, 1)", x.lay(0, 0, 2, 1), 2, x);
        x.sheet(0, 0, 0);
        dueFinding("lay(0, 0, 0, 1) of none", x.lay(0, 0, 0, 1), 2, x);

        sentence("3 CAST: it has another FORM");
        for (int form = 0; form < 3; form++) {
            for (int as = 0; as < 3; as++) {
                x = new WordsKnown();
                x.sheet(0, form, 1);
                due("lay of FORM " + form + " as " + as, x.lay(0, as, 0, 1), as == form ? 1 : CAST);
                due("count(8)", x.count(8), as == form ? 0 : 3);
            }
        }

        sentence("4 STORE: unlike FORMS");
        for (int form = 0; form < 3; form++) {
            for (int to = 0; to < 3; to++) {
                x = new WordsKnown();
                x.sheet(0, form, 1);
                x.sheet(1, to, 1);
                due("copy of FORM " + form + " to " + to, x.copy(0, 0, 1, 0, 1), to == form ? 1 : STORE);
                due("count(8)", x.count(8), to == form ? 0 : 4);
            }
        }

        sentence("5 SIZE: below 0.");
        for (int n : new int[] {-1, -60, LEAST_INT}) {
            x = new WordsKnown();
            dueFinding("sheet(0, 0, " + n + ")", x.sheet(0, 0, n), 5, x);
        }
        due("sheet(0, 0, 0)", new WordsKnown().sheet(0, 0, 0), 0);
    }

    private static WordsKnown lay2() {
        WordsKnown x = new WordsKnown();
        x.sheet(0, 0, 2);
        return x;
    }

    // ======== 2: asked, guess, true, knows

    private static void askedAndGuess() {
        noBoundary("Of a TAKER and a BAND (NONE: the FALSE ones):");
        sentence("ASKED: WORDS of it that are there and were answered; YESES of these");
        WordsKnown x = with("0*3;f*3", 9, 9);
        dueAsked(x, 0, 0, 0, 0);
        dueAsked(x, 0, NONE, 0, 0);
        tell(x, 0, "10-1011");
        dueAsked(x, 0, 0, 2, 1);
        dueAsked(x, 0, NONE, 3, 2);
        dueAsked(x, 0, 1, 0, 0);
        type(x, ";1");
        dueAsked(x, 0, 1, 1, 1);
        x = fullOfWords();
        dueAsked(x, 2, 0, 18, 18);
        dueAsked(x, 2, NONE, 4, 4);
        dueAsked(x, 3, 0, 0, 0);

        sentence("GUESS: YESES by ASKED of the FALSE ones (0 without any)");
        x = told("0;f*2", "1", 9);
        dueKnows(x, 0, 0, 0, 1);
        tell(x, 0, " 0");
        dueKnows(x, 0, 0, 0, 1);
        tell(x, 0, "  1");
        dueKnows(x, 0, 0, 1, 2);
        tell(x, 0, " 1");
        dueKnows(x, 0, 0, 1, 1);
        tell(x, 0, " --");
        dueKnows(x, 0, 0, 0, 1);
        dueKnows(told("f", "1"), 0, 0, 1, 1);
        dueKnows(told("f", "0"), 0, 0, 0, 1);

        sentence("PLAIN: YESES by ASKED of a BAND");
        x = told("0*3;f", "0001", 9);
        dueShare(x, 0, 0, 0, 0, 1);
        tell(x, 0, "1");
        dueShare(x, 0, 0, 0, 1, 3);
        tell(x, 0, " 11");
        dueShare(x, 0, 0, 0, 1, 1);
    }

    private static void trueAndKnows() {
        sentence("TRUE: (PLAIN less GUESS) by (1 less GUESS), 0 at least");
        WordsKnown x = told("0*3;f*2", "11110", 9);
        dueShare(x, 0, 0, 1, 1, 1);
        tell(x, 0, "0");
        dueShare(x, 0, 0, 1, 1, 3);
        x = told("0*2;f*2", "1010", 9);
        dueShare(x, 0, 0, 1, 0, 1);
        tell(x, 0, "00");
        dueShare(x, 0, 0, 1, 0, 1);
        x = told("0*9;f*8", "11111111011111110", 9);
        // 8 by 9 less 7 by 8, by 1 by 8
        dueShare(x, 0, 0, 1, 1, 9);
        x = told("0*8;f*9", "11111110111111110", 9);
        dueShare(x, 0, 0, 1, 0, 1);

        sentence("NOT without ASKED ones, TRUE with GUESS 1");
        x = with("0*2;f*2", 9);
        for (int k = 0; k < 4; k++) due("share, none ASKED", x.share(0, 0, k / 2, k % 2), LONG_NOT);
        tell(x, 0, "1");
        dueShare(x, 0, 0, 0, 1, 1);
        dueShare(x, 0, 0, 1, 1, 1);
        tell(x, 0, "  11");
        dueShare(x, 0, 0, 0, 1, 1);
        for (int what = 0; what < 2; what++) due("share, TRUE with GUESS 1", x.share(0, 0, 1, what), LONG_NOT);
        tell(x, 0, "  10");
        dueShare(x, 0, 0, 1, 1, 1);
        tell(x, 0, "-");
        for (int k = 0; k < 4; k++) due("share, taken back", x.share(0, 0, k / 2, k % 2), LONG_NOT);

        sentence("KNOWS: SIZE times TRUE of all BANDS that have ASKED ones, together");
        x = told("0;5", "1", 10, 9, 9, 9, 9, 99);
        dueKnows(x, 0, 1, 10, 1);
        tell(x, 0, " 1");
        dueKnows(x, 0, 1, 109, 1);
        tell(x, 0, "0");
        dueKnows(x, 0, 1, 99, 1);
        tell(x, 0, "00");
        dueKnows(x, 0, 1, 0, 1);
        x = told("0;1;2;3;4;5", "111111", 99, 99, 99, 99, 99, 99);
        dueKnows(x, 0, 1, 594, 1);
        // GUESS 1 by 5: 99 times (23 by 28, 19 by 24, 3 by 4, 27 by 32, 31 by 36)
        x = told("0*7;1*6;2*5;3*8;4*9;f*5", "1111110" + "111110" + "11110" + "11111110" + "111111110" + "10000", 99, 99, 99, 99, 99, 99);
        dueKnows(x, 0, 1, 90211, 224);

        sentence("NOT without any, with GUESS 1.");
        x = told("0;f*2", " 0", 9);
        due("knows, FALSE ones alone", x.knows(0, 1, 0), LONG_NOT);
        tell(x, 0, "1");
        dueKnows(x, 0, 1, 9, 1);
        tell(x, 0, " 1");
        due("knows, above, with GUESS 1", x.knows(0, 1, 0), LONG_NOT);
        due("knows, below, with GUESS 1", x.knows(0, 1, 1), LONG_NOT);
        tell(x, 0, "  0");
        dueKnows(x, 0, 1, 9, 1);
        due("knows without BANDS", new WordsKnown().knows(3, 1, 1), LONG_NOT);
    }

    // ======== 2: may, likeliest

    /** So many of a band asked, so many of these with yes. */
    private static WordsKnown asked(int size, int asked, int yeses) {
        WordsKnown x = with(asked == 1 ? "0" : "0*" + asked, size);
        for (int i = 0; i < asked; i++) x.answer(0, i, i < yeses ? 1 : 0, 0);
        return x;
    }

    private static void may() {
        noBoundary("MAY: how many words of a BAND's SIZE one may know, GUESSES left aside");
        sentence("(8 ASKED at most, and no more than SIZE: else FULL)");
        due("may, 8 ASKED", asked(99, 8, 8).may(0, 0, 0, 0), 8);
        due("may, 9 ASKED", asked(99, 9, 9).may(0, 0, 0, 0), FULL);
        due("may, 9 ASKED, none with yes", asked(99, 9, 0).may(0, 0, 255, 1), FULL);
        due("may, 8 ASKED of SIZE 8", asked(8, 8, 5).may(0, 0, 0, 0), 5);
        due("may, 8 ASKED of SIZE 7", asked(7, 8, 5).may(0, 0, 0, 0), FULL);
        due("may, 2 ASKED of SIZE 1", asked(1, 2, 1).may(0, 0, 0, 0), FULL);
        due("may, 1 ASKED of SIZE 1", asked(1, 1, 1).may(0, 0, 255, 0), 1);
        due("may, 1 ASKED of SIZE 1, not known", asked(1, 1, 0).may(0, 0, 0, 1), 0);

        sentence("the least with which the chance that of as many drawn as were ASKED so many YESES or more are known is more than x by 256 (0 to 255)");
        // of SIZE 4 and 1 ASKED the chance is a fourth for each that is known: 64 by 256
        int[][] rows = {{0, 1}, {63, 1}, {64, 2}, {127, 2}, {128, 3}, {191, 3}, {192, 4}, {255, 4}};
        for (int[] r : rows) due("may(0, 0, " + r[0] + ", 0)", asked(4, 1, 1).may(0, 0, r[0], 0), r[1]);
        due("may without a yes", asked(4, 1, 0).may(0, 0, 255, 0), 0);
        due("may of 99, 8 with yes", asked(99, 8, 8).may(0, 0, 255, 0), 99);
        for (int yeses = 0; yeses <= 8; yeses++) due("may, all drawn", asked(8, 8, yeses).may(0, 0, 255, 0), yeses);
        dueTaken("x of may", 0, 255, BAD, v -> asked(4, 1, 1).may(0, 0, v, 0));

        sentence("the greatest with which that of so many or fewer is; NONE.");
        int[][] most = {{0, 3}, {63, 3}, {64, 2}, {127, 2}, {128, 1}, {191, 1}, {192, 0}, {255, 0}};
        for (int[] r : most) due("may(0, 0, " + r[0] + ", 1)", asked(4, 1, 0).may(0, 0, r[0], 1), r[1]);
        due("may, each with yes", asked(4, 1, 1).may(0, 0, 255, 1), 4);
        due("may of 99, none of 8 with yes", asked(99, 8, 0).may(0, 0, 255, 1), 0);
        due("may of 99, none of 8 with yes", asked(99, 8, 0).may(0, 0, 0, 1), 91);
        for (int yeses = 0; yeses <= 8; yeses++) due("may, all drawn", asked(8, 8, yeses).may(0, 0, 0, 1), yeses);
        // with all known, or with none, the chance is 1: NONE never comes
        for (int size : new int[] {1, 2, 8, 99}) {
            for (int n = 1; n <= Math.min(size, 8); n++) {
                for (int k = 0; k < 2 * (n + 1); k++) {
                    due("may is NONE", asked(size, n, k / 2).may(0, 0, 255, k % 2) < 0 ? 1 : 0, 0);
                }
            }
        }
    }

    private static void likeliest() {
        sentence("LIKELIEST: with how many words known (0 to SIZE) the chance of just so many YESES is greatest");
        due("likeliest, none of 5 with yes", asked(99, 5, 0).likeliest(0, 0, 15), 0);
        due("likeliest, none of 1 with yes", asked(1, 1, 0).likeliest(0, 0, 0), 0);
        due("likeliest, 5 of 5 with yes", asked(99, 5, 5).likeliest(0, 0, 15), 99);
        due("likeliest, 1 of 1 with yes", asked(1, 1, 1).likeliest(0, 0, 0), 1);
        due("likeliest, 1 of 2 with yes of 4", asked(4, 2, 1).likeliest(0, 0, 0), 2);

        sentence("if each that one does not know is guessed with g sixteenths (0 to 15; 5 ASKED at most, and no more than SIZE: else FULL)");
        dueTaken("g of likeliest", 0, 15, BAD, v -> asked(4, 2, 1).likeliest(0, 0, v));
        due("likeliest, guessed 7 by 16", asked(4, 2, 1).likeliest(0, 0, 7), 1);
        due("likeliest, guessed 15 by 16", asked(4, 2, 1).likeliest(0, 0, 15), 0);
        // (99 - k) times ((98 - k) times g, and 16 k)
        due("likeliest, 1 of 2 with yes of 99, guessed 1 by 16", asked(99, 2, 1).likeliest(0, 0, 1), 46);
        due("likeliest, 1 of 2 with yes of 99, guessed 4 by 16", asked(99, 2, 1).likeliest(0, 0, 4), 33);
        due("likeliest, 5 ASKED", asked(99, 5, 5).likeliest(0, 0, 0), 99);
        due("likeliest, 6 ASKED", asked(99, 6, 6).likeliest(0, 0, 0), FULL);
        due("likeliest, 5 ASKED of SIZE 5", asked(5, 5, 3).likeliest(0, 0, 0), 3);
        due("likeliest, 5 ASKED of SIZE 4", asked(4, 5, 3).likeliest(0, 0, 0), FULL);
        due("likeliest, 2 ASKED of SIZE 1", asked(1, 2, 1).likeliest(0, 0, 0), FULL);

        sentence("of like ones the least.");
        // 2 times 3 ways with 2 and with 3 known
        due("likeliest, 1 of 2 with yes of 5", asked(5, 2, 1).likeliest(0, 0, 0), 2);
        // half guessed: (4 - k) times (3 + k), 12 with 0 and with 1 known
        due("likeliest, half guessed", asked(4, 2, 1).likeliest(0, 0, 8), 0);
        due("likeliest, 3 of 5 with yes of 99", asked(99, 5, 3).likeliest(0, 0, 0), 59);
    }

    // ======== 3: cover, easiest, ladder

    private static void cover() {
        sentence("COVER of a BOOK: TRUE times RUNNING of all BANDS (those without ASKED ones: 0)");
        WordsKnown x = told("0*2;1*2", "1", 9, 9);
        book(x, 30, 10);
        dueCover(x, 0, 0, 3, 4);
        dueCover(x, 1, 0, 0, 1);
        tell(x, 0, " 111");
        dueCover(x, 0, 0, 1, 1);
        tell(x, 0, "0");
        dueCover(x, 0, 0, 5, 8);

        sentence("by all RUNNING words (of BANDS 0 to 5, there or not)");
        x = told("0", "1", 9);
        book(x, 1, 0, 0, 0, 0, 99);
        dueCover(x, 0, 0, 1, 100);
        for (int band = 1; band < 6; band++) x.run(0, band, 99);
        x.run(0, 0, 99);
        dueCover(x, 0, 0, 1, 6);
        x = told("0;1;2;3;4;5", "111111", 1, 1, 1, 1, 1, 1);
        book(x, 99, 99, 99, 99, 99, 99);
        dueCover(x, 0, 0, 1, 1);
        x.run(0, 5, 0);
        dueCover(x, 0, 0, 1, 1);

        sentence("NOT without these, with GUESS 1. EASIEST");
        x = told("0;f*2", "1", 9);
        book(x);
        for (int what = 0; what < 2; what++) due("cover without words", x.cover(0, 0, what), LONG_NOT);
        x.run(0, 5, 1);
        dueCover(x, 0, 0, 0, 1);
        tell(x, 0, " 1");
        for (int what = 0; what < 2; what++) due("cover with GUESS 1", x.cover(0, 0, what), LONG_NOT);
        tell(x, 0, "  0");
        dueCover(x, 0, 0, 0, 1);
        x.run(0, 5, 0);
        due("cover without words again", x.cover(0, 0, 0), LONG_NOT);
    }

    private static void easiest() {
        sentence("EASIEST: the BOOK with the greatest, of like ones the first; NONE.");
        WordsKnown x = told("0;f", "1", 9);
        due("easiest without BOOKS", x.easiest(0), NONE);
        x.book();
        due("easiest, a BOOK without words", x.easiest(0), NONE);
        book(x, 0, 5);
        due("easiest, COVER 0", x.easiest(0), 1);
        book(x, 1, 99);
        due("easiest, COVER 1 by 100", x.easiest(0), 2);
        book(x, 50, 50);
        book(x, 7, 7);
        due("easiest, of like ones", x.easiest(0), 3);
        book(x, 51, 49);
        due("easiest, the last of six", x.easiest(0), 5);
        x.run(0, 0, 1);
        due("easiest, the first of six", x.easiest(0), 0);
        tell(x, 0, " 1");
        due("easiest with GUESS 1", x.easiest(0), NONE);
        due("easiest of one who was not asked", x.easiest(3), 0);
    }

    private static void ladder() {
        noBoundary("LADDER:");
        sentence("from the BOOKS not yet read that have COVER of p hundredths (0 to 100) or more");
        WordsKnown x = told("0", "1", 99, 99);
        book(x, 99, 1);
        dueLadder(x, 99, 9, 0);
        dueLadder(x, 100, 9);
        x.run(0, 1, 0);
        dueLadder(x, 100, 9, 0);
        x.run(0, 1, 99);
        x.run(0, 0, 0);
        dueLadder(x, 0, 9, 0);
        dueLadder(x, 1, 9);
        x.run(0, 1, 2);
        x.run(0, 0, 1);
        dueLadder(x, 33, 9, 0);
        dueLadder(x, 34, 9);
        // 67 by 198 and 495 by 496, just below
        x.run(0, 0, 67);
        x.run(0, 1, 66);
        x.run(0, 5, 65);
        dueLadder(x, 33, 9, 0);
        dueLadder(x, 34, 9);
        x.run(0, 1, 0);
        x.run(0, 0, 0);
        x.run(0, 5, 0);
        dueLadder(x, 0, 9);
        x = told("0;1;2;3;4;5", "11111", 99, 99, 99, 99, 99, 99);
        book(x, 99, 99, 99, 99, 99, 1);
        dueLadder(x, 99, 9, 0);
        dueLadder(x, 100, 9);
        dueTaken("p of ladder", 0, 100, BAD, v -> rich().ladder(0, v, 1, NONE));

        sentence("the one with the greatest (of like ones the first) is read, as long as there is one");
        x = told("0", "1", 99, 99);
        dueLadder(x, 0, 9);
        book(x, 1, 1);
        book(x, 2, 2);
        book(x, 3);
        book(x, 1);
        book(x, 0, 4);
        dueLadder(x, 0, 9, 2, 3, 0, 1, 4);
        dueLadder(x, 1, 9, 2, 3, 0, 1);
        dueLadder(x, 51, 9, 2, 3);
        book(x, 1);
        dueLadder(x, 0, 9, 2, 3, 5, 0, 1, 4);
    }

    /** A book of which half is band 1, and one of band 1 alone. */
    private static WordsKnown teaching(int size, int running) {
        WordsKnown x = told("0", "1", 99, size);
        book(x, running, running);
        book(x, 0, 1);
        return x;
    }

    private static void learningOnTheLadder() {
        sentence("Of what was read all RUNNING words of a BAND were MET; when these are m (1 to 9) times its SIZE or more, TRUE of it is 1 from then on.");
        dueLadder(teaching(99, 99), 50, 1, 0, 1);
        dueLadder(teaching(99, 98), 50, 1, 0);
        dueLadder(teaching(1, 1), 50, 1, 0, 1);
        dueLadder(teaching(11, 99), 50, 9, 0, 1);
        dueLadder(teaching(11, 98), 50, 9, 0);
        dueLadder(teaching(12, 99), 50, 9, 0);
        dueLadder(teaching(12, 99), 50, 8, 0, 1);
        dueTaken("m of ladder", 1, 9, BAD, v -> rich().ladder(0, 0, v, NONE));
        // met in two books together: 98 and 1
        WordsKnown x = teaching(99, 98);
        book(x, 1, 1);
        dueLadder(x, 50, 1, 0, 2, 1);
        x = teaching(99, 97);
        book(x, 1, 1);
        dueLadder(x, 50, 1, 0, 2);
        // not before it is read
        x = told("0", "1", 99, 1);
        book(x, 49, 51);
        dueLadder(x, 50, 1);
        dueLadder(x, 49, 1, 0);
        // one that is said not to be known, too; but COVER stays as it was
        x = told("0;1", "10", 99, 5);
        book(x, 9, 9);
        book(x, 0, 1);
        dueLadder(x, 50, 1, 0, 1);
        dueCover(x, 0, 0, 1, 2);
        dueCover(x, 0, 1, 0, 1);
        due("easiest", x.easiest(0), 0);
        // just 1: 60 of 100 with band 1 learned, then 30 of 100
        x = told("0", "1", 99, 66);
        book(x, 99, 66);
        book(x, 0, 60, 40);
        book(x, 0, 30, 70);
        dueLadder(x, 60, 1, 0, 1);
        dueLadder(x, 30, 1, 0, 1, 2);
        // the first band, as any other; and what a ladder learned and read is so on that ladder alone
        x = told("1", "1", 9, 99);
        book(x, 9, 9);
        book(x, 3);
        dueLadder(x, 50, 1, 0, 1);
        dueLadder(x, 50, 2, 0);
        due("easiest just after a ladder", x.easiest(0), 0);
        due("ladder", x.ladder(0, 50, 1, NONE), 2);
        due("cover just after a ladder", x.cover(0, 1, 0), 0);
        // a band that is not there has no SIZE
        x = told("0", "1", 99);
        book(x, 99, 99);
        book(x, 0, 1);
        dueLadder(x, 50, 1, 0);

        sentence("Which BOOKS, in order.");
        x = told("0", "1", 99, 99);
        due("the first of none", x.ladder(0, 0, 1, 0), NONE);
        book(x, 1, 1);
        book(x, 1);
        due("how many", x.ladder(0, 0, 9, NONE), 2);
        due("the first", x.ladder(0, 0, 9, 0), 1);
        due("the last", x.ladder(0, 0, 9, 1), 0);
        due("beyond", x.ladder(0, 0, 9, 2), NONE);
        due("far beyond", x.ladder(0, 0, 9, MOST_INT), NONE);
    }

    // ======== 4: next, deal

    private static void next() {
        noBoundary("NEXT: the BAND of which one more ANSWER lowers the spread most:");
        sentence("without ASKED ones the first such with the greatest SIZE");
        WordsKnown x = with("0;1;2;3", 1, 99, 99, 98);
        int[] order = {1, 2, 3, 0};
        for (int band : order) {
            due("next(0)", x.next(0), band);
            x.answer(0, band, 1, 0);
        }
        due("next(1)", x.next(1), 1);
        due("next(0), the first is the greatest", with("", 99, 98).next(0), 0);
        due("next(0), the last is the greatest", with("", 98, 98, 98, 98, 98, 99).next(0), 5);
        // however doubtful another is
        x = told("0*9;1", "101010101", 99, 1);
        due("next(0), the one without", x.next(0), 1);

        sentence("if all have some: that with the greatest of SIZE times SIZE times (YESES and 1) times (ASKED less YESES, and 1), all that by (ASKED and 2) times (ASKED and 2) times ASKED times (ASKED and 1)");
        // 97 * 97 * 1 * 5 by 36 * 4 * 5 is more than 64, 24 * 24 * 2 * 1 by 9 * 1 * 2
        due("next, just more", told("1;0*4", "10000", 97, 24).next(0), 0);
        due("next, just less", told("1;0*4", "10000", 95, 24).next(0), 1);
        due("next, just more, all known", told("1;0*4", "11111", 97, 24).next(0), 0);
        due("next, just less, all known", told("1;0*4", "11111", 95, 24).next(0), 1);
        due("next, half of it known", told("1*2;0*2", "1011", 50, 50).next(0), 1);
        due("next, half of it known", told("1*2;0*2", "1110", 50, 50).next(0), 0);
        x = told("0*9;0*9;0*9;0*9;0*3;1", "1".repeat(40), 99, 1);
        // 99 * 99 * 40 by 41 * 41 * 39 * 40 against 2 by 18
        due("next, 39 ASKED", x.next(0), 0);
        tell(x, 0, "0".repeat(19));
        due("next, 39 ASKED, half known", x.next(0), 0);

        sentence("of like ones the first; NONE without BANDS.");
        due("next, like ones", told("1;0*4", "10000", 96, 24).next(0), 0);
        due("next, like ones", told("0;1*4", "10000", 24, 96).next(0), 0);
        due("next, six like ones", told("5;4;3;2;1;0", "101010", 9, 9, 9, 9, 9, 9).next(0), 0);
        due("next without BANDS", new WordsKnown().next(0), NONE);
        due("next without BANDS, FALSE ones asked", told("f", "1").next(0), NONE);
    }

    private static void dueDeal(WordsKnown x, int n, int... dealt) {
        for (int band = 0; band < dealt.length; band++) due("deal(" + n + ", " + band + ")", x.deal(n, band), dealt[band]);
    }

    private static void deal() {
        sentence("DEAL of n questions (0 to 99):");
        dueTaken("n of deal", 0, 99, BAD, v -> with("", 9).deal(v, 0));
        dueDeal(with("", 5, 9), 0, 0, 0);
        dueDeal(with("", 5), 99, 99);
        WordsKnown x = with("", 99, 98, 50, 3, 2, 1);
        int all = 0;
        for (int band = 0; band < 6; band++) all += x.deal(99, band);
        due("deal(99) in all", all, 99);

        sentence("one after the other goes to the BAND without any with the greatest SIZE");
        x = with("", 1, 99, 98, 98, 2, 99);
        dueDeal(x, 1, 0, 1, 0, 0, 0, 0);
        dueDeal(x, 2, 0, 1, 0, 0, 0, 1);
        dueDeal(x, 3, 0, 1, 1, 0, 0, 1);
        dueDeal(x, 4, 0, 1, 1, 1, 0, 1);
        dueDeal(x, 5, 0, 1, 1, 1, 1, 1);
        dueDeal(x, 6, 1, 1, 1, 1, 1, 1);
        dueDeal(with("", 99, 98), 1, 1, 0);

        sentence("else to that with the greatest of SIZE times SIZE by (how many it has, times that and 1); of like ones the first: how many a BAND gets");
        // 3600 by 8 * 9 is as much as 100 by 1 * 2
        dueDeal(with("", 60, 10), 9, 8, 1);
        dueDeal(with("", 60, 10), 10, 9, 1);
        dueDeal(with("", 60, 10), 11, 9, 2);
        dueDeal(with("", 10, 60), 9, 1, 8);
        dueDeal(with("", 10, 60), 10, 2, 8);
        dueDeal(with("", 10, 61), 10, 1, 9);
        dueDeal(with("", 61, 10), 10, 9, 1);
        dueDeal(with("", 59, 10), 10, 8, 2);
        dueDeal(with("", 7, 7, 7, 7, 7, 7), 7, 2, 1, 1, 1, 1, 1);
        dueDeal(with("", 7, 7, 7, 7, 7, 7), 11, 2, 2, 2, 2, 2, 1);
        // 99 * 99 by 98 * 99 is 1 and a 98th, 1 by 1 * 2 a half
        dueDeal(with("", 99, 1), 99, 98, 1);
    }

    // ======== 5: two takers, two times

    private static void two() {
        sentence("Two TAKERS: WORDS that are not FALSE and that both answered: BOTH say yes, the first ALONE, the second ALONE, NEITHER");
        WordsKnown x = with("0*5;f;1", 9, 9);
        duePairs(x, 0, 1, 0, 0, 0, 0);
        tell(x, 0, "11001111");
        duePairs(x, 0, 1, 0, 0, 0, 0);
        tell(x, 1, "1010-111");
        duePairs(x, 0, 1, 2, 1, 1, 1);
        duePairs(x, 1, 0, 2, 1, 1, 1);
        tell(x, 1, "    0");
        duePairs(x, 0, 1, 2, 2, 1, 1);
        duePairs(x, 1, 0, 2, 1, 2, 1);
        type(x, ";0");
        duePairs(x, 0, 1, 3, 2, 1, 1);
        x = fullOfWords();
        duePairs(x, 0, 2, 36, 0, 0, 0);

        sentence("ALIKE: (BOTH and NEITHER) by all");
        x = told("0*4;f", "11001", 9);
        tell(x, 1, "1---1");
        dueAlike(x, 0, 1, 1, 1);
        tell(x, 1, "0");
        dueAlike(x, 0, 1, 0, 1);
        tell(x, 1, " 100");
        dueAlike(x, 0, 1, 3, 4);
        tell(x, 1, "----");
        due("alike without such WORDS", x.alike(0, 1, 0), LONG_NOT);
    }

    private static WordsKnown alone(int first, int second) {
        WordsKnown x = with("0*9;0*9;0*9;0*9;0*4", 99);
        for (int i = 0; i < first + second; i++) {
            x.answer(0, i, i < first ? 1 : 0, 0);
            x.answer(1, i, i < first ? 0 : 1, 0);
        }
        return x;
    }

    /** The share of the ways in which the one has more by as many, counted with whole rows of Pascal's triangle. */
    private static long evenOrMore(int turned, int lead) {
        BigInteger ways = BigInteger.ONE, sum = BigInteger.ZERO;
        for (int k = 0; k <= turned; k++) {
            if (Math.abs(k - (turned - k)) >= lead) sum = sum.add(ways);
            ways = ways.multiply(BigInteger.valueOf(turned - k)).divide(BigInteger.valueOf(k + 1));
        }
        return sum.multiply(BigInteger.valueOf(1000000)).divide(BigInteger.TWO.pow(turned)).longValueExact();
    }

    private static void better() {
        sentence("BETTER: of all ways to turn those that one ALONE knows (24 at most: FULL) to the one or the other");
        for (int first = 0; first <= 24; first++) {
            due("better of " + first + " and the rest of 24", alone(first, 24 - first).better(0, 1), evenOrMore(24, Math.abs(2 * first - 24)));
        }
        for (int first : new int[] {0, 1, 12, 13, 24, 25}) due("better of 25", alone(first, 25 - first).better(0, 1), FULL);
        due("better of 40", alone(40, 0).better(1, 0), FULL);

        sentence("the share in which the one has more than the other by as many, or more (either way)");
        due("better of 1 and 0", alone(1, 0).better(0, 1), 1000000);
        due("better of 1 and 1", alone(1, 1).better(0, 1), 1000000);
        due("better of 2 and 0", alone(2, 0).better(0, 1), 500000);
        due("better of 0 and 2", alone(0, 2).better(0, 1), 500000);
        due("better of 3 and 1", alone(3, 1).better(0, 1), 625000);
        due("better of 1 and 3, the other way round", alone(1, 3).better(1, 0), 625000);
        due("better of 3 and 0", alone(3, 0).better(0, 1), 250000);

        sentence("in millionths, cut (of none 1000000)");
        due("better of none", alone(0, 0).better(0, 1), 1000000);
        due("better, nobody asked", new WordsKnown().better(2, 3), 1000000);
        // 7812 and a half, 3906 and a fourth, 11718 and three fourths; less than one
        due("better of 8 and 0", alone(8, 0).better(0, 1), 7812);
        due("better of 9 and 0", alone(9, 0).better(0, 1), 3906);
        due("better of 10 and 1", alone(10, 1).better(0, 1), 11718);
        due("better of 20 and 0", alone(20, 0).better(0, 1), 1);
        due("better of 21 and 0", alone(21, 0).better(0, 1), 0);
        due("better of 24 and 0", alone(24, 0).better(0, 1), 0);
    }

    private static void learnt() {
        sentence("LEARNT between two TIMES: WORDS that are not FALSE that a TAKER had answered as of both with no and then yes; FORGOTTEN: with yes and then no; KEPT: yes and yes.");
        WordsKnown x = with("0*4;f", 9);
        dueLearnt(x, 0, 0, 999, 0, 0, 0);
        tell(x, 0, "01010", 10);
        tell(x, 0, "10 11", 20);
        tell(x, 0, "  -", 30);
        tell(x, 0, "-", 999);
        int[][] rows = {{0, 999, 0, 0, 0}, {9, 20, 0, 0, 0}, {10, 19, 0, 0, 2}, {10, 20, 1, 1, 1}, {10, 30, 1, 1, 1},
            {10, 998, 1, 1, 1}, {10, 999, 0, 1, 1}, {20, 20, 0, 0, 2}, {20, 999, 0, 0, 1}, {999, 999, 0, 0, 1}, {0, 0, 0, 0, 0}};
        for (int[] r : rows) dueLearnt(x, 0, r[0], r[1], r[2], r[3], r[4]);
        x.asOf(0);
        dueLearnt(x, 0, 10, 20, 1, 1, 1);
        dueLearnt(x, 1, 10, 20, 0, 0, 0);
        tell(x, 3, "10", 999);
        dueLearnt(x, 3, 999, 999, 0, 0, 1);
        dueLearnt(x, 3, 998, 999, 0, 0, 0);
        x.wipe();
        dueLearnt(x, 0, 10, 20, 0, 0, 0);
    }

    // ======== refusals, in short; all of them stand in RefusalBoundaries

    private static void refusals() {
        sentence("Refusals, the first that fits, in the order told at each act: BAD -2 (a number not as told, no such thing), NULL, NOT -3 (as told), FULL -4, other FINDINGS.");
        due("BAD", WordsKnown.BAD, -2);
        due("NOT", WordsKnown.NOT, -3);
        due("FULL", WordsKnown.FULL, -4);
        due("band(0), full", full().band(0), BAD);
        due("read of a LOST one by no TAKER", new WordsKnown().read(0, 4, 0), BAD);
        due("may, none ASKED, x 256", asked(4, 1, 1).may(1, 0, 256, 0), BAD);
        due("copy of a LOST one to one, below 0", rich().copy(0, -1, 0, 0, 1), INDEX);
        due("sheet(4, 0, -1)", new WordsKnown().sheet(4, 0, -1), BAD);

        sentence("They change nothing (FINDINGS but count() 8).");
        WordsKnown x = full(), y = full();
        x.band(9);
        x.book();
        x.type('f');
        x.answer(0, 0, 0, 7);
        x.sheet(0, 0, 61);
        due("digest()", x.digest(), y.digest());
        due("count(8)", x.count(8), 0);
        x.sheet(0, 0, -1);
        due("digest() after a FINDING", x.digest(), y.digest());
        due("count(8) after a FINDING", x.count(8), 5);
        due("lose(0)", x.lose(0), 60);

        sentence("Where the answer is a long, a refusal -x is the least long and x more.");
        long least = -9223372036854775807L - 1;
        due("share, BAD", rich().share(0, 6, 0, 0), least + 2);
        due("knows, BAD", rich().knows(0, 2, 0), least + 2);
        due("cover, BAD", rich().cover(0, 6, 0), least + 2);
        due("alike, BAD", rich().alike(0, 0, 0), least + 2);
        x = with("0", 9);
        x.book();
        due("share, NOT", x.share(0, 0, 0, 0), least + 3);
        due("knows, NOT", x.knows(0, 1, 0), least + 3);
        due("cover, NOT", x.cover(0, 0, 0), least + 3);
        due("alike, NOT", x.alike(0, 1, 0), least + 3);
    }

    private static void partOne() {
        books();
        takers();
        bytesOfTheList();
        wordsOfTheList();
        faults();
        noWordsWithAFault();
        answers();
        times();
        fractions();
        sheets();
        findings();
    }

    private static void partsTwoToFive() {
        askedAndGuess();
        trueAndKnows();
        may();
        likeliest();
        cover();
        easiest();
        ladder();
        learningOnTheLadder();
        next();
        deal();
        two();
        better();
        learnt();
    }

    public static void main(String[] args) {
        section("## What it is", "## The public face");
        noBoundary("Words one knows: words drawn from bands of a dictionary, with false ones between, as a list; who says to know which, "
            + "told late, again, taken back; shares, with guesses taken off by the false ones; how many words of a band one may know by so few, "
            + "and how many it is likeliest that one does, if one guesses so often; what of a book one would understand, the easiest book, "
            + "a ladder of books in which bands are learnt by being met; which band to ask next, how to deal so many questions; "
            + "two who take the test, held against all turns of who is better; what was learnt, what forgotten between two times.");
        bands();
        calls();
        noBoundary("what later calls answer is free");
        section("## Terms", "## Promise 1:");
        partOne();
        partsTwoToFive();
        refusals();
        end();
    }
}
