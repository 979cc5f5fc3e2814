import java.util.ArrayList;
import java.util.List;

// Each refusal of each call: alone, and where more than one fits the first in the order told at that act;
// and that the refused call changes nothing but, for a FINDING, count() 8.
public final class RefusalBoundaries extends Checks {

    interface State {
        WordsKnown make();
    }

    private static final int FORMS = 3, SHEETS = 4;

    // ---- states

    private static WordsKnown fresh() {
        return new WordsKnown();
    }

    /**
     * Bands of SIZES 99, 2, 5, 9 (no words of the last), of taker 0 nine, three, two asked; a false one;
     * books with and without words; sheets 0 of bytes, 1 of shorts, 2 of no ints, 3 lost; the last time is 5.
     */
    private static WordsKnown some() {
        WordsKnown x = with("0*9;1*3;2*2;f", 99, 2, 5, 9);
        tell(x, 0, "10101010111110", 3);
        tell(x, 1, "0101    11", 4);
        tell(x, 2, "1-", 4);
        x.answer(2, 14, 1, 5);
        book(x, 10, 20, 30);
        book(x);
        book(x, 5, 0, 0, 0, 0, 5);
        lay(x, 0, 0, 1, 0, -1);
        lay(x, 1, 1, 300, -1, 7, 5);
        x.sheet(2, 2, 0);
        return x;
    }

    private static WordsKnown allFull() {
        return full();
    }

    /** 40 words, 120 answers: takers 0 and 1 differ in 36 words; only false ones are said to be known by taker 2. */
    private static WordsKnown allTold() {
        WordsKnown x = with("0*9;0*9;1*9;2*9;f*4", 99, 5, 8, 1, 2, 99);
        for (int s = 0; s < SHEETS; s++) x.sheet(s, 2, 60);
        for (int i = 0; i < 40; i++) x.lay(0, 2, i, 1);
        for (int i = 36; i < 40; i++) x.lay(1, 2, i, 1);
        x.read(0, 0, 7);
        x.read(2, 1, 7);
        x.read(1, 2, 8);
        for (int i = 0; i < 6; i++) book(x, 9 * i, 3, 2, 1);
        return x;
    }

    // ---- all that can be seen of an object; what is asked last changes it

    private static List<Long> seen(WordsKnown x) {
        List<Long> all = new ArrayList<>();
        for (int what = 0; what < 8; what++) all.add((long) x.count(what));
        all.add((long) x.fault());
        for (int word = 0; word < 40; word += 3) all.add((long) x.word(word));
        all.add(x.digest());
        seeSheets(x, all);
        for (int time : new int[] {0, 2, 3, 4, 5, 7, 8, 999}) {
            x.asOf(time);
            all.add(x.digest());
            all.add((long) x.pair(1, 2, 0));
            all.add((long) x.pair(2, 3, 1));
        }
        for (int what = 0; what < 3; what++) all.add((long) x.learnt(0, 3, 7, what));
        seeRunning(x, all);
        seeTimes(x, all);
        all.add((long) x.wipe());
        all.add((long) x.type('f'));
        all.add((long) x.asked(2, NONE, 0));
        all.add((long) x.band(1));
        all.add((long) x.book());
        return all;
    }

    private static void seeSheets(WordsKnown x, List<Long> all) {
        for (int s = 0; s < SHEETS; s++) {
            for (int form = 0; form < FORMS; form++) {
                for (int i : new int[] {0, 1, 3, 4, 39, 59}) all.add((long) x.get(s, form, i));
                all.add((long) x.count(8));
            }
            all.add((long) x.lose(s));
        }
    }

    private static void seeRunning(WordsKnown x, List<Long> all) {
        for (int book = 0; book < 6; book++) {
            for (int band = 0; band < 6; band++) all.add((long) x.run(book, band, 0));
        }
    }

    /** Which time is still taken. */
    private static void seeTimes(WordsKnown x, List<Long> all) {
        for (int time = 0; time < 9; time++) all.add((long) x.answer(3, 0, 1, time));
    }

    // ---- checks

    private static void dueRefusal(String call, State state, Act act, long want, int finding) {
        WordsKnown refused = state.make(), untouched = state.make();
        due(call, act.on(refused), want);
        due("count(8) after " + call, refused.count(8), finding == 0 ? untouched.count(8) : finding);
        List<Long> after = seen(refused), before = seen(untouched);
        due("how much was seen after " + call, after.size(), before.size());
        int unlike = 0;
        for (int i = 0; i < before.size(); i++) {
            if (!after.get(i).equals(before.get(i))) unlike++;
        }
        due("how much " + call + " has changed", unlike, 0);
    }

    /** A refusal that an act answers as it is. */
    private static void refused(String call, State state, long want, Act act) {
        dueRefusal(call, state, act, want, want <= NULL && want >= SIZE ? (int) (-10 - want) : 0);
    }

    /** A refusal of get: the least int, with the finding (0: BAD). */
    private static void getRefused(String call, State state, int finding, Act act) {
        dueRefusal(call, state, act, LEAST_INT, finding);
    }

    /** Refused in each state. */
    private static void refusedAlways(String call, long want, Act act) {
        State[] states = {RefusalBoundaries::fresh, RefusalBoundaries::some, RefusalBoundaries::allFull, RefusalBoundaries::allTold};
        String[] names = {" (fresh)", " (some)", " (all full)", " (all told)"};
        for (int i = 0; i < states.length; i++) refused(call + names[i], states[i], want, act);
    }

    private static final int[] NO_TAKER = {-1, 4, LEAST_INT, MOST_INT};
    private static final int[] NO_TIME = {-1, 1000, LEAST_INT, MOST_INT};
    private static final int[] NO_SHEET = {-1, 4, LEAST_INT, MOST_INT};
    private static final int[] NO_FORM = {-1, 3, LEAST_INT, MOST_INT};
    private static final int[] NO_BAND = {-1, 6, LEAST_INT, MOST_INT};
    private static final int[] NEITHER_0_NOR_1 = {-1, 2, LEAST_INT, MOST_INT};

    private static final State FRESH = RefusalBoundaries::fresh, SOME = RefusalBoundaries::some;
    private static final State ALL_FULL = RefusalBoundaries::allFull, ALL_TOLD = RefusalBoundaries::allTold;

    // ---- bands, books, the list

    private static void bandsAndBooks() {
        sentenceOf(2, "BAD; FULL.");
        for (int v : new int[] {0, 100, -1, LEAST_INT, MOST_INT}) refusedAlways("band(" + v + "), BAD ahead of FULL", BAD, x -> x.band(v));
        refused("band(1), full", ALL_FULL, FULL, x -> x.band(1));
        refused("band(99), full", ALL_FULL, FULL, x -> x.band(99));

        sentenceOf(3, "FULL.");
        refused("book(), full", ALL_FULL, FULL, x -> x.book());

        sentenceOf(4, "BAD.");
        for (int v : NO_BAND) {
            refusedAlways("run, BOOK " + v, BAD, x -> x.run(v, 0, 1));
            refusedAlways("run, BAND " + v, BAD, x -> x.run(0, v, 1));
        }
        for (int v : new int[] {-1, 100, LEAST_INT, MOST_INT}) refusedAlways("run, v " + v, BAD, x -> x.run(0, 0, v));
        refused("run, no BOOKS", FRESH, BAD, x -> x.run(0, 0, 1));
        refused("run, a BOOK just beyond", SOME, BAD, x -> x.run(3, 0, 1));

        sentenceOf(5, "BAD; FULL.");
        for (int v : new int[] {-1, 256, LEAST_INT, MOST_INT}) refusedAlways("type(" + v + "), BAD ahead of FULL", BAD, x -> x.type(v));
        for (int v : new int[] {0, 'f', 255}) refused("type(" + v + "), full", ALL_FULL, FULL, x -> x.type(v));

        sentenceOf(8, "BAD.");
        for (int v : new int[] {-1, 40, LEAST_INT, MOST_INT}) refusedAlways("word(" + v + ")", BAD, x -> x.word(v));
    }

    // ---- answers

    private static void answers() {
        sentenceOf(9, "BAD: also a TIME less than the one before; FULL.");
        for (int v : NO_TAKER) refusedAlways("answer, TAKER " + v, BAD, x -> x.answer(v, 0, 1, 8));
        for (int v : new int[] {-1, 40, LEAST_INT, MOST_INT}) refusedAlways("answer, WORD " + v, BAD, x -> x.answer(0, v, 1, 8));
        for (int v : new int[] {-2, 2, LEAST_INT, MOST_INT}) refusedAlways("answer, says " + v, BAD, x -> x.answer(0, 0, v, 8));
        for (int v : NO_TIME) refusedAlways("answer, TIME " + v, BAD, x -> x.answer(0, 0, 1, v));
        refused("answer, a TIME less", SOME, BAD, x -> x.answer(0, 0, 1, 4));
        refused("answer, a TIME less, full", ALL_FULL, BAD, x -> x.answer(0, 0, 0, 6));
        refused("answer, a TIME less, full", ALL_TOLD, BAD, x -> x.answer(3, 39, 0, 7));
        refused("answer, full", ALL_FULL, FULL, x -> x.answer(0, 0, 0, 7));
        refused("answer, full", ALL_TOLD, FULL, x -> x.answer(3, 39, -1, 999));

        sentenceOf(10, "BAD: likewise; NULL.");
        for (int v : NO_SHEET) refusedAlways("read, SHEET " + v, BAD, x -> x.read(v, 0, 8));
        for (int v : NO_TAKER) refusedAlways("read, TAKER " + v, BAD, x -> x.read(0, v, 8));
        for (int v : NO_TIME) refusedAlways("read, TIME " + v, BAD, x -> x.read(0, 0, v));
        refused("read, a TIME less", SOME, BAD, x -> x.read(0, 0, 4));
        refused("read, a TIME less of a LOST one", SOME, BAD, x -> x.read(3, 0, 4));
        refused("read, no TAKER of a LOST one", SOME, BAD, x -> x.read(3, 4, 5));
        refused("read of a LOST one", SOME, NULL, x -> x.read(3, 0, 5));
        for (int s = 0; s < SHEETS; s++) {
            int sheet = s;
            refused("read of LOST " + s, FRESH, NULL, x -> x.read(sheet, 3, 999));
        }

        sentenceOf(11, "BAD.");
        for (int v : NO_TIME) refusedAlways("asOf(" + v + ")", BAD, x -> x.asOf(v));

        sentenceOf(12, "BAD.");
        for (int v : NO_TAKER) refusedAlways("asked, TAKER " + v, BAD, x -> x.asked(v, NONE, 0));
        for (int v : new int[] {-2, 6, LEAST_INT, MOST_INT}) refusedAlways("asked, BAND " + v, BAD, x -> x.asked(0, v, 0));
        for (int v : NEITHER_0_NOR_1) refusedAlways("asked, what " + v, BAD, x -> x.asked(0, NONE, v));
        refused("asked, a BAND just beyond", SOME, BAD, x -> x.asked(0, 4, 0));
    }

    private static void shares() {
        sentenceOf(13, "BAD; NOT. (As the least long and x more.)");
        for (int v : NO_TAKER) refusedAlways("share, TAKER " + v, LONG_BAD, x -> x.share(v, 0, 0, 0));
        for (int v : NO_BAND) refusedAlways("share, BAND " + v, LONG_BAD, x -> x.share(0, v, 0, 0));
        for (int v : NEITHER_0_NOR_1) {
            refusedAlways("share, which " + v, LONG_BAD, x -> x.share(0, 0, v, 0));
            refusedAlways("share, what " + v, LONG_BAD, x -> x.share(0, 0, 0, v));
            refused("share, none ASKED, which " + v, SOME, LONG_BAD, x -> x.share(0, 3, v, 0));
            refused("share, none ASKED, what " + v, SOME, LONG_BAD, x -> x.share(0, 3, 0, v));
            refused("share, GUESS 1, what " + v, ALL_TOLD, LONG_BAD, x -> x.share(0, 0, 1, v));
        }
        refused("share, a BAND just beyond", SOME, LONG_BAD, x -> x.share(0, 4, 0, 0));
        for (int k = 0; k < 4; k++) {
            int which = k / 2, what = k % 2;
            refused("share, none ASKED", SOME, LONG_NOT, x -> x.share(0, 3, which, what));
            refused("share, none ASKED and a FAULT", ALL_FULL, LONG_NOT, x -> x.share(0, 0, which, what));
        }
        for (int k = 0; k < 2; k++) {
            int what = k;
            refused("share, TRUE with GUESS 1", ALL_TOLD, LONG_NOT, x -> x.share(0, 0, 1, what));
        }

        sentenceOf(14, "BAD; NOT (1). (As the least long and x more.)");
        for (int v : NO_TAKER) refusedAlways("knows, TAKER " + v, LONG_BAD, x -> x.knows(v, 1, 0));
        for (int v : NEITHER_0_NOR_1) {
            refusedAlways("knows, which " + v, LONG_BAD, x -> x.knows(3, v, 0));
            refusedAlways("knows, none ASKED, what " + v, LONG_BAD, x -> x.knows(3, 1, v));
        }
        for (int k = 0; k < 2; k++) {
            int what = k;
            refusedAlways("knows, none ASKED", LONG_NOT, x -> x.knows(3, 1, what));
            refused("knows with GUESS 1", ALL_TOLD, LONG_NOT, x -> x.knows(2, 1, what));
        }
    }

    private static void mays() {
        sentenceOf(15, "BAD; NOT: none ASKED; FULL.");
        for (int v : NO_TAKER) refusedAlways("may, TAKER " + v, BAD, x -> x.may(v, 0, 0, 0));
        for (int v : NO_BAND) refusedAlways("may, BAND " + v, BAD, x -> x.may(0, v, 0, 0));
        // of taker 3 none are asked: NOT; of taker 0 too many: FULL
        for (int v : new int[] {-1, 256, LEAST_INT, MOST_INT}) {
            refusedAlways("may, x " + v + " ahead of NOT", BAD, x -> x.may(3, 0, v, 0));
            refusedAlways("may, x " + v + " ahead of FULL", BAD, x -> x.may(0, 0, v, 0));
        }
        for (int v : NEITHER_0_NOR_1) {
            refusedAlways("may, end " + v + " ahead of NOT", BAD, x -> x.may(3, 0, 0, v));
            refusedAlways("may, end " + v + " ahead of FULL", BAD, x -> x.may(0, 0, 0, v));
        }
        refused("may, a BAND just beyond", SOME, BAD, x -> x.may(0, 4, 0, 0));
        refused("may, none ASKED", SOME, NOT, x -> x.may(0, 3, 0, 0));
        refused("may, none ASKED and a FAULT", ALL_FULL, NOT, x -> x.may(0, 0, 255, 1));
        refused("may, 9 ASKED", SOME, FULL, x -> x.may(0, 0, 0, 0));
        refused("may, 3 ASKED of SIZE 2", SOME, FULL, x -> x.may(0, 1, 255, 1));
        refused("may, 9 ASKED of SIZE 5", ALL_TOLD, FULL, x -> x.may(1, 1, 0, 1));

        sentenceOf(16, "BAD; NOT: none ASKED; FULL.");
        for (int v : NO_TAKER) refusedAlways("likeliest, TAKER " + v, BAD, x -> x.likeliest(v, 0, 0));
        for (int v : NO_BAND) refusedAlways("likeliest, BAND " + v, BAD, x -> x.likeliest(0, v, 0));
        for (int v : new int[] {-1, 16, LEAST_INT, MOST_INT}) {
            refusedAlways("likeliest, g " + v + " ahead of NOT", BAD, x -> x.likeliest(3, 0, v));
            refusedAlways("likeliest, g " + v + " ahead of FULL", BAD, x -> x.likeliest(0, 0, v));
        }
        refused("likeliest, a BAND just beyond", SOME, BAD, x -> x.likeliest(0, 4, 0));
        refused("likeliest, none ASKED", SOME, NOT, x -> x.likeliest(0, 3, 0));
        refused("likeliest, none ASKED and a FAULT", ALL_FULL, NOT, x -> x.likeliest(0, 0, 15));
        refused("likeliest, 9 ASKED", SOME, FULL, x -> x.likeliest(0, 0, 0));
        refused("likeliest, 3 ASKED of SIZE 2", SOME, FULL, x -> x.likeliest(0, 1, 15));
        refused("likeliest, 9 ASKED of SIZE 5", ALL_TOLD, FULL, x -> x.likeliest(1, 1, 0));
    }

    // ---- books, what to ask

    private static void books() {
        sentenceOf(17, "BAD; NOT. (As the least long and x more.)");
        for (int v : NO_TAKER) refusedAlways("cover, TAKER " + v, LONG_BAD, x -> x.cover(v, 1, 0));
        for (int v : NO_BAND) refusedAlways("cover, BOOK " + v, LONG_BAD, x -> x.cover(0, v, 0));
        for (int v : NEITHER_0_NOR_1) {
            refusedAlways("cover, what " + v, LONG_BAD, x -> x.cover(0, 0, v));
            refused("cover without words, what " + v, SOME, LONG_BAD, x -> x.cover(0, 1, v));
            refused("cover with GUESS 1, what " + v, ALL_TOLD, LONG_BAD, x -> x.cover(0, 1, v));
        }
        refused("cover, a BOOK just beyond, GUESS 1", SOME, LONG_BAD, x -> x.cover(2, 3, 0));
        for (int k = 0; k < 2; k++) {
            int what = k;
            refused("cover without words", SOME, LONG_NOT, x -> x.cover(0, 1, what));
            refused("cover with GUESS 1", SOME, LONG_NOT, x -> x.cover(2, 0, what));
            refused("cover with GUESS 1", ALL_TOLD, LONG_NOT, x -> x.cover(0, 5, what));
        }

        sentenceOf(18, "BAD.");
        for (int v : NO_TAKER) refusedAlways("easiest(" + v + ")", BAD, x -> x.easiest(v));
        refused("easiest with GUESS 1", ALL_TOLD, NONE, x -> x.easiest(0));
        refused("easiest without BOOKS", FRESH, NONE, x -> x.easiest(0));

        sentenceOf(19, "BAD: also i below NONE; NOT: GUESS is 1.");
        for (int v : NO_TAKER) refusedAlways("ladder, TAKER " + v, BAD, x -> x.ladder(v, 0, 1, 0));
        // of taker 0 GUESS is 1 where all is told: BAD is ahead of NOT
        for (int v : new int[] {-1, 101, LEAST_INT, MOST_INT}) refusedAlways("ladder, p " + v, BAD, x -> x.ladder(0, v, 1, 0));
        for (int v : new int[] {0, 10, LEAST_INT, MOST_INT}) refusedAlways("ladder, m " + v, BAD, x -> x.ladder(0, 0, v, 0));
        for (int v : new int[] {-2, -3, LEAST_INT}) refusedAlways("ladder, i " + v, BAD, x -> x.ladder(0, 0, 1, v));
        for (int v : new int[] {NONE, 0, 5, MOST_INT}) {
            refused("ladder with GUESS 1, i " + v, ALL_TOLD, NOT, x -> x.ladder(0, 0, 1, v));
            refused("ladder with GUESS 1, i " + v, SOME, NOT, x -> x.ladder(2, 100, 9, v));
        }

        sentenceOf(20, "BAD.");
        for (int v : NO_TAKER) refusedAlways("next(" + v + ")", BAD, x -> x.next(v));

        sentenceOf(21, "BAD.");
        for (int v : new int[] {-1, 100, LEAST_INT, MOST_INT}) refusedAlways("deal, n " + v, BAD, x -> x.deal(v, 0));
        for (int v : NO_BAND) refusedAlways("deal, BAND " + v, BAD, x -> x.deal(0, v));
        refused("deal, a BAND just beyond", SOME, BAD, x -> x.deal(9, 4));
        refused("deal without BANDS", FRESH, BAD, x -> x.deal(0, 0));
    }

    // ---- two, times

    private static void twoAndTimes() {
        sentenceOf(22, "BAD: also one with itself.");
        for (int v : NO_TAKER) {
            refusedAlways("pair, the first " + v, BAD, x -> x.pair(v, 0, 0));
            refusedAlways("pair, the second " + v, BAD, x -> x.pair(0, v, 0));
        }
        for (int v : new int[] {-1, 4, LEAST_INT, MOST_INT}) refusedAlways("pair, what " + v, BAD, x -> x.pair(0, 1, v));
        for (int v = 0; v < 4; v++) {
            int taker = v;
            refusedAlways("pair of " + v + " with itself", BAD, x -> x.pair(taker, taker, 0));
            refusedAlways("alike of " + v + " with itself", LONG_BAD, x -> x.alike(taker, taker, 0));
            refusedAlways("better of " + v + " with itself", BAD, x -> x.better(taker, taker));
        }

        sentenceOf(23, "BAD: likewise; NOT: no such WORDS. (As the least long and x more.)");
        // taker 3 was never asked: BAD is ahead of NOT
        for (int v : NO_TAKER) {
            refusedAlways("alike, the first " + v, LONG_BAD, x -> x.alike(v, 3, 0));
            refusedAlways("alike, the second " + v, LONG_BAD, x -> x.alike(3, v, 0));
        }
        for (int v : NEITHER_0_NOR_1) {
            refusedAlways("alike, what " + v, LONG_BAD, x -> x.alike(0, 1, v));
            refusedAlways("alike, no such WORDS, what " + v, LONG_BAD, x -> x.alike(0, 3, v));
        }
        for (int what = 0; what < 2; what++) {
            int k = what;
            refusedAlways("alike, no such WORDS", LONG_NOT, x -> x.alike(0, 3, k));
        }

        sentenceOf(24, "BAD: likewise; FULL.");
        for (int v : NO_TAKER) {
            refusedAlways("better, the first " + v, BAD, x -> x.better(v, 0));
            refusedAlways("better, the second " + v, BAD, x -> x.better(0, v));
        }
        refused("better, 36 ALONE", ALL_TOLD, FULL, x -> x.better(0, 1));
        refused("better, 36 ALONE, the other way", ALL_TOLD, FULL, x -> x.better(2, 0));

        sentenceOf(25, "BAD.");
        for (int v : NO_TAKER) refusedAlways("learnt, TAKER " + v, BAD, x -> x.learnt(v, 0, 999, 0));
        for (int v : NO_TIME) {
            refusedAlways("learnt, from " + v, BAD, x -> x.learnt(0, v, 999, 0));
            refusedAlways("learnt, to " + v, BAD, x -> x.learnt(0, 0, v, 0));
            refusedAlways("learnt, from and to " + v, BAD, x -> x.learnt(0, v, v, 0));
        }
        for (int v : new int[] {-1, 3, LEAST_INT, MOST_INT}) refusedAlways("learnt, what " + v, BAD, x -> x.learnt(0, 0, 999, v));
        refusedAlways("learnt, back in time", BAD, x -> x.learnt(0, 5, 4, 0));
        refusedAlways("learnt, back in time", BAD, x -> x.learnt(0, 999, 0, 2));
    }

    // ---- sheets

    private static void sheets() {
        sentenceOf(26, "BAD: SHEET, FORM, above 60; SIZE.");
        for (int v : NO_SHEET) {
            refusedAlways("sheet, SHEET " + v, BAD, x -> x.sheet(v, 0, 3));
            refusedAlways("sheet, SHEET " + v + " ahead of SIZE", BAD, x -> x.sheet(v, 0, -1));
        }
        for (int v : NO_FORM) {
            refusedAlways("sheet, FORM " + v, BAD, x -> x.sheet(0, v, 3));
            refusedAlways("sheet, FORM " + v + " ahead of SIZE", BAD, x -> x.sheet(0, v, -1));
        }
        for (int v : new int[] {61, 62, MOST_INT}) refusedAlways("sheet of " + v, BAD, x -> x.sheet(0, 0, v));
        for (int v : new int[] {-1, -60, LEAST_INT}) {
            refusedAlways("sheet of " + v, SIZE, x -> x.sheet(0, 2, v));
            refusedAlways("sheet of " + v, SIZE, x -> x.sheet(3, 1, v));
        }

        sentenceOf(27, "BAD; NULL.");
        for (int v : NO_SHEET) refusedAlways("lose(" + v + ")", BAD, x -> x.lose(v));
        refused("lose(3)", SOME, NULL, x -> x.lose(3));
        for (int s = 0; s < SHEETS; s++) {
            int sheet = s;
            refused("lose(" + s + ")", FRESH, NULL, x -> x.lose(sheet));
        }

        sentenceOf(31, "BAD; NULL.");
        for (int v : NO_TAKER) refusedAlways("write, TAKER " + v, BAD, x -> x.write(v, 0));
        for (int v : NO_SHEET) refusedAlways("write, SHEET " + v, BAD, x -> x.write(0, v));
        refused("write, no TAKER to a LOST one", SOME, BAD, x -> x.write(4, 3));
        refused("write to a LOST one", SOME, NULL, x -> x.write(0, 3));
        refused("write to a LOST one", FRESH, NULL, x -> x.write(3, 0));

        sentenceOf(32, "BAD.");
        for (int v : new int[] {-1, 9, LEAST_INT, MOST_INT}) refusedAlways("count(" + v + ")", BAD, x -> x.count(v));
    }

    private static void items() {
        sentenceOf(28, "BAD; NULL; CAST; INDEX.");
        for (int v : NO_SHEET) refusedAlways("lay, SHEET " + v, BAD, x -> x.lay(v, 0, 0, 9));
        for (int v : NO_FORM) {
            refusedAlways("lay, FORM " + v, BAD, x -> x.lay(0, v, 0, 9));
            refusedAlways("lay, FORM " + v + ", no such item", BAD, x -> x.lay(0, v, 60, 9));
        }
        refused("lay, FORM 3 of a LOST one", SOME, BAD, x -> x.lay(3, 3, 0, 9));
        for (int v = 0; v < FORMS; v++) {
            int form = v;
            refused("lay in a LOST one as " + v, SOME, NULL, x -> x.lay(3, form, 0, 9));
            refused("lay in a LOST one as " + v + ", no such item", SOME, NULL, x -> x.lay(3, form, -1, 9));
            refused("lay in a new one as " + v, FRESH, NULL, x -> x.lay(0, form, 0, 9));
            for (int s = 0; s < FORMS; s++) {
                int sheet = s;
                if (s == v) continue;
                refused("lay in " + s + " as " + v, SOME, CAST, x -> x.lay(sheet, form, 0, 9));
                refused("lay in " + s + " as " + v + ", no such item", SOME, CAST, x -> x.lay(sheet, form, -1, 9));
                refused("lay in " + s + " as " + v + ", no such item", SOME, CAST, x -> x.lay(sheet, form, MOST_INT, 9));
            }
        }
        for (int i : new int[] {-1, 3, LEAST_INT, MOST_INT}) refused("lay, item " + i + " of 3", SOME, INDEX, x -> x.lay(0, 0, i, 9));
        for (int i : new int[] {-1, 60, LEAST_INT, MOST_INT}) refused("lay, item " + i + " of 60", ALL_FULL, INDEX, x -> x.lay(3, 2, i, 9));
        refused("lay, item 0 of 0", SOME, INDEX, x -> x.lay(2, 2, 0, 9));

        sentenceOf(29, "BAD: the least int; so are NULL, CAST, INDEX (count() 8 tells).");
        for (int v : NO_SHEET) refusedAlways("get, SHEET " + v, LEAST_INT, x -> x.get(v, 0, 0));
        for (int v : NO_FORM) {
            refusedAlways("get, FORM " + v, LEAST_INT, x -> x.get(0, v, 0));
            refusedAlways("get, FORM " + v + ", no such item", LEAST_INT, x -> x.get(0, v, 60));
        }
        getRefused("get, FORM 3 of a LOST one", SOME, 0, x -> x.get(3, 3, 0));
        for (int v = 0; v < FORMS; v++) {
            int form = v;
            getRefused("get of a LOST one as " + v, SOME, 1, x -> x.get(3, form, 0));
            getRefused("get of a LOST one as " + v + ", no such item", SOME, 1, x -> x.get(3, form, -1));
            getRefused("get of a new one as " + v, FRESH, 1, x -> x.get(0, form, 0));
            for (int s = 0; s < FORMS; s++) {
                int sheet = s;
                if (s == v) continue;
                getRefused("get of " + s + " as " + v, SOME, 3, x -> x.get(sheet, form, 0));
                getRefused("get of " + s + " as " + v + ", no such item", SOME, 3, x -> x.get(sheet, form, -1));
            }
        }
        for (int i : new int[] {-1, 3, LEAST_INT, MOST_INT}) getRefused("get, item " + i + " of 3", SOME, 2, x -> x.get(0, 0, i));
        for (int i : new int[] {-1, 60, LEAST_INT, MOST_INT}) getRefused("get, item " + i + " of 60", ALL_FULL, 2, x -> x.get(3, 2, i));
        getRefused("get, item 0 of 0", SOME, 2, x -> x.get(2, 2, 0));
    }

    private static void copies() {
        sentenceOf(30, "BAD: the SHEETS; NULL: s, t; STORE; INDEX: below 0, not so many (with n 0, too, if i or j is above how many there are).");
        for (int v : NO_SHEET) {
            refusedAlways("copy from " + v, BAD, x -> x.copy(v, 0, 0, 0, 1));
            refusedAlways("copy to " + v, BAD, x -> x.copy(0, 0, v, 0, 1));
            refused("copy from " + v + " to a LOST one, below 0", SOME, BAD, x -> x.copy(v, -1, 3, -1, -1));
            refused("copy from a LOST one to " + v + ", below 0", SOME, BAD, x -> x.copy(3, -1, v, -1, -1));
        }
        for (int v = 0; v < FORMS; v++) {
            int sheet = v;
            refused("copy from a LOST one to " + v, SOME, NULL, x -> x.copy(3, 0, sheet, 0, 0));
            refused("copy from " + v + " to a LOST one", SOME, NULL, x -> x.copy(sheet, 0, 3, 0, 0));
            refused("copy from a LOST one to " + v + ", below 0", SOME, NULL, x -> x.copy(3, -1, sheet, 0, 1));
            refused("copy from " + v + " to a LOST one, below 0", SOME, NULL, x -> x.copy(sheet, 0, 3, 0, -1));
            for (int t = 0; t < FORMS; t++) {
                int to = t;
                if (t == v) continue;
                refused("copy from " + v + " to " + t, SOME, STORE, x -> x.copy(sheet, 0, to, 0, 0));
                refused("copy from " + v + " to " + t + ", below 0", SOME, STORE, x -> x.copy(sheet, 0, to, 0, -1));
                refused("copy from " + v + " to " + t + ", not so many", SOME, STORE, x -> x.copy(sheet, MOST_INT, to, 0, MOST_INT));
            }
        }
        refused("copy of a LOST one onto itself", SOME, NULL, x -> x.copy(3, 0, 3, 0, 0));
        int[][] beyond = {{-1, 0, 0}, {-1, 0, 1}, {0, -1, 0}, {0, -1, 1}, {0, 0, -1}, {3, 3, -1}, {4, 0, 0}, {0, 4, 0}, {3, 0, 1}, {0, 3, 1},
            {0, 1, 3}, {1, 0, 3}, {0, 0, 4}, {2, 2, 2}, {1, 1, MOST_INT}, {MOST_INT, 0, 1}, {0, MOST_INT, 1}, {MOST_INT, MOST_INT, MOST_INT},
            {LEAST_INT, 0, 0}, {0, LEAST_INT, 0}, {0, 0, LEAST_INT}, {LEAST_INT, LEAST_INT, LEAST_INT}};
        for (int[] r : beyond) {
            refused("copy(0, " + r[0] + ", 0, " + r[1] + ", " + r[2] + ")", SOME, INDEX, x -> x.copy(0, r[0], 0, r[1], r[2]));
        }
        refused("copy of 61 of 60", ALL_FULL, INDEX, x -> x.copy(0, 0, 1, 0, 61));
        refused("copy of one of no items", SOME, INDEX, x -> x.copy(2, 0, 2, 0, 1));
    }

    /** The rows above would see a change: of these calls each does one. */
    private static void changesAreSeen() {
        sentence("They change nothing (FINDINGS but count() 8).");
        Act[] acts = {x -> x.band(7), x -> x.book(), x -> x.run(0, 0, 11), x -> x.run(2, 4, 1), x -> x.type('f'), x -> x.type(';'),
            x -> x.wipe(), x -> x.answer(2, 0, 0, 5), x -> x.answer(3, 30, 0, 5), x -> x.answer(0, 0, 1, 6), x -> x.answer(1, 1, -1, 5),
            x -> x.read(0, 3, 5), x -> x.asOf(998), x -> x.sheet(0, 0, 3), x -> x.sheet(3, 0, 0), x -> x.sheet(2, 1, 0), x -> x.lose(2),
            x -> x.lay(0, 0, 1, 4), x -> x.lay(1, 1, 3, 4), x -> x.copy(0, 0, 0, 1, 1), x -> x.write(0, 1)};
        List<Long> before = seen(some());
        for (int i = 0; i < acts.length; i++) {
            WordsKnown x = some();
            acts[i].on(x);
            due("whether change " + i + " is seen", seen(x).equals(before) ? 0 : 1, 1);
        }
        due("whether no change is seen", seen(some()).equals(before) ? 0 : 1, 0);
    }

    public static void main(String[] args) {
        bandsAndBooks();
        answers();
        shares();
        mays();
        books();
        twoAndTimes();
        sheets();
        items();
        copies();
        changesAreSeen();
        end();
    }
}
