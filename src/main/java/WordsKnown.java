import java.util.Arrays;

/** Words one knows: a test of words drawn from the bands of a dictionary, and what follows from it. */
public final class WordsKnown {

    public static final int NONE = -1, BAD = -2, NOT = -3, FULL = -4;

    private static final int MOST_BANDS = 6;
    private static final int MOST_BOOKS = 6;
    private static final int MOST_BYTES = 80;
    private static final int MOST_WORDS = 40;
    private static final int MOST_ANSWERS = 120;
    private static final int MOST_FIGURE = 99;
    private static final int TAKERS = 4;
    private static final int LAST_TIME = 999;

    // A word is of the kind 0 to 5, its band's number, or of this kind.
    private static final int FALSE_KIND = 6;
    private static final int KINDS = 7;

    private static final int YES = 1;
    private static final int UNSAID = -1;

    private static final int SHEETS = 4;
    private static final int FORMS = 3;
    private static final int MOST_ITEMS = 60;
    private static final int LOST = -1;

    private static final int FINDING_NULL = 1;
    private static final int FINDING_INDEX = 2;
    private static final int FINDING_CAST = 3;
    private static final int FINDING_STORE = 4;
    private static final int FINDING_SIZE = 5;

    // In the table of two rows of answers: first and second yes, or one of them alone.
    private static final int BOTH = 0;
    private static final int FIRST_ALONE = 1;
    private static final int SECOND_ALONE = 2;
    private static final int NEITHER = 3;

    private static final int MOST_ASKED_FOR_MAY = 8;
    private static final int MOST_ASKED_FOR_LIKELIEST = 5;
    private static final int MOST_ALONE = 24;

    private static final int LEAST_INT = 1 << 31;
    private static final long LEAST_LONG = 1L << 63;

    private final Dictionary dictionary;
    private final Shelf shelf;
    private final WordList list;
    private final Answers answers;
    private final Tallies tallies;
    private final Chances chances;
    private final Sheets sheets;
    private final Fraction result;

    public WordsKnown() {
        dictionary = new Dictionary();
        shelf = new Shelf();
        list = new WordList();
        answers = new Answers();
        tallies = new Tallies();
        chances = new Chances();
        sheets = new Sheets();
        result = new Fraction();
    }

    // ---- bands, books, the list

    public int band(int size) {
        if (!isIn(size, 1, MOST_FIGURE)) return BAD;
        if (dictionary.bands() >= MOST_BANDS) return FULL;
        int number = dictionary.addBand(size);
        readListAnew();
        return number;
    }

    public int book() {
        if (shelf.books() >= MOST_BOOKS) return FULL;
        return shelf.addBook();
    }

    public int run(int book, int band, int v) {
        if (!isBook(book) || !isIn(band, 0, MOST_BANDS - 1) || !isIn(v, 0, MOST_FIGURE)) return BAD;
        return shelf.changeRunning(book, band, v);
    }

    public int type(int b) {
        if (!isIn(b, 0, 255)) return BAD;
        if (list.length() >= MOST_BYTES) return FULL;
        list.append(b);
        readListAnew();
        return list.length();
    }

    public int wipe() {
        int length = list.length();
        list.empty();
        readListAnew();
        return length;
    }

    public int fault() {
        return list.faultPlace();
    }

    public int word(int word) {
        if (!isIn(word, 0, MOST_WORDS - 1)) return BAD;
        return word < list.words() ? list.kindOfWord(word) : NONE;
    }

    // ---- answers

    public int answer(int taker, int word, int says, int time) {
        if (!isTaker(taker) || !isIn(word, 0, MOST_WORDS - 1)) return BAD;
        if (!maySay(says) || !mayBeTold(time)) return BAD;
        if (answers.told() >= MOST_ANSWERS) return FULL;
        answers.tell(taker, word, says, time);
        countAnew();
        return answers.told();
    }

    public int read(int s, int taker, int time) {
        if (!isSheet(s) || !isTaker(taker) || !mayBeTold(time)) return BAD;
        if (sheets.isLost(s)) return sheets.refuse(FINDING_NULL);
        int most = Math.min(Math.min(sheets.sizeOf(s), MOST_WORDS), MOST_ANSWERS - answers.told());
        int came = 0;
        for (int i = 0; i < most; i++) {
            int says = sheets.item(s, i);
            if (!maySay(says)) break;
            answers.tell(taker, i, says, time);
            came++;
        }
        countAnew();
        return came;
    }

    public int asOf(int time) {
        if (!isTime(time)) return BAD;
        int before = answers.viewTime();
        answers.viewAsOf(time);
        countAnew();
        return before;
    }

    public int asked(int taker, int band, int what) {
        if (!isTaker(taker) || !(band == NONE || isBand(band)) || !isIn(what, 0, 1)) return BAD;
        int kind = band == NONE ? FALSE_KIND : band;
        return what == 0 ? tallies.askedOf(taker, kind) : tallies.yesesOf(taker, kind);
    }

    public long share(int taker, int band, int which, int what) {
        if (!isTaker(taker) || !isBand(band)) return refusal(BAD);
        if (!isIn(which, 0, 1) || !isIn(what, 0, 1)) return refusal(BAD);
        if (tallies.askedOf(taker, band) == 0) return refusal(NOT);
        if (which == 0) {
            tallies.putPlain(taker, band, result);
            return result.part(what);
        }
        if (tallies.guessesAll(taker)) return refusal(NOT);
        tallies.putTrue(taker, band, result);
        return result.part(what);
    }

    public long knows(int taker, int which, int what) {
        if (!isTaker(taker) || !isIn(which, 0, 1) || !isIn(what, 0, 1)) return refusal(BAD);
        if (which == 0) {
            tallies.putGuess(taker, result);
            return result.part(what);
        }
        if (!tallies.hasAskedBand(taker) || tallies.guessesAll(taker)) return refusal(NOT);
        tallies.putKnown(taker, dictionary, result);
        return result.part(what);
    }

    public int may(int taker, int band, int x, int end) {
        if (!isTaker(taker) || !isBand(band) || !isIn(x, 0, 255) || !isIn(end, 0, 1)) return BAD;
        int asked = tallies.askedOf(taker, band);
        int size = dictionary.sizeOf(band);
        if (asked == 0) return NOT;
        if (asked > MOST_ASKED_FOR_MAY || asked > size) return FULL;
        int yeses = tallies.yesesOf(taker, band);
        return end == 0 ? chances.leastKnown(size, asked, yeses, x)
                        : chances.greatestKnown(size, asked, yeses, x);
    }

    public int likeliest(int taker, int band, int g) {
        if (!isTaker(taker) || !isBand(band) || !isIn(g, 0, 15)) return BAD;
        int asked = tallies.askedOf(taker, band);
        int size = dictionary.sizeOf(band);
        if (asked == 0) return NOT;
        if (asked > MOST_ASKED_FOR_LIKELIEST || asked > size) return FULL;
        return chances.likeliestKnown(size, asked, tallies.yesesOf(taker, band), g);
    }

    // ---- books

    public long cover(int taker, int book, int what) {
        if (!isTaker(taker) || !isBook(book) || !isIn(what, 0, 1)) return refusal(BAD);
        if (!shelf.putCover(tallies, taker, book, result)) return refusal(NOT);
        return result.part(what);
    }

    public int easiest(int taker) {
        if (!isTaker(taker)) return BAD;
        return shelf.easiestBook(tallies, taker);
    }

    public int ladder(int taker, int p, int m, int i) {
        if (!isTaker(taker) || !isIn(p, 0, 100) || !isIn(m, 1, 9) || i < NONE) return BAD;
        if (tallies.guessesAll(taker)) return NOT;
        int climbed = shelf.climb(tallies, taker, dictionary, p, m);
        if (i == NONE) return climbed;
        return i < climbed ? shelf.rung(i) : NONE;
    }

    // ---- what to ask

    public int next(int taker) {
        if (!isTaker(taker)) return BAD;
        return dictionary.bandToAsk(tallies, taker);
    }

    public int deal(int n, int band) {
        if (!isIn(n, 0, MOST_FIGURE) || !isBand(band)) return BAD;
        return dictionary.dealtTo(band, n);
    }

    // ---- two, times

    public int pair(int a, int b, int what) {
        if (!areTwo(a, b) || !isIn(what, BOTH, NEITHER)) return BAD;
        return pairCount(a, b, what);
    }

    public long alike(int a, int b, int what) {
        if (!areTwo(a, b) || !isIn(what, 0, 1)) return refusal(BAD);
        int same = pairCount(a, b, BOTH) + pairCount(a, b, NEITHER);
        int all = same + pairCount(a, b, FIRST_ALONE) + pairCount(a, b, SECOND_ALONE);
        if (all == 0) return refusal(NOT);
        result.put(same, all);
        return result.part(what);
    }

    public int better(int a, int b) {
        if (!areTwo(a, b)) return BAD;
        int first = pairCount(a, b, FIRST_ALONE);
        int second = pairCount(a, b, SECOND_ALONE);
        if (first + second > MOST_ALONE) return FULL;
        return chances.millionthsAsUneven(first + second, Math.abs(first - second));
    }

    public int learnt(int taker, int from, int to, int what) {
        if (!isTaker(taker) || !isTime(from) || !isTime(to) || to < from || !isIn(what, 0, 2)) return BAD;
        return list.countCrossed(answers.earlierRow(taker, from), answers.laterRow(taker, to), crossOfLearning(what));
    }

    // ---- sheets

    public int sheet(int s, int form, int n) {
        if (!isSheet(s) || !isForm(form) || n > MOST_ITEMS) return BAD;
        if (n < 0) return sheets.refuse(FINDING_SIZE);
        sheets.makeNew(s, form, n);
        return n;
    }

    public int lose(int s) {
        if (!isSheet(s)) return BAD;
        if (sheets.isLost(s)) return sheets.refuse(FINDING_NULL);
        int size = sheets.sizeOf(s);
        sheets.drop(s);
        return size;
    }

    public int lay(int s, int form, int i, int v) {
        if (!isSheet(s) || !isForm(form)) return BAD;
        int finding = sheets.findingOfItem(s, form, i);
        if (finding != 0) return sheets.refuse(finding);
        sheets.putItem(s, i, v);
        return 1;
    }

    public int get(int s, int form, int i) {
        if (!isSheet(s) || !isForm(form)) return LEAST_INT;
        int finding = sheets.findingOfItem(s, form, i);
        if (finding == 0) return sheets.item(s, i);
        sheets.refuse(finding);
        return LEAST_INT;
    }

    public int copy(int s, int i, int t, int j, int n) {
        if (!isSheet(s) || !isSheet(t)) return BAD;
        int finding = sheets.findingOfCopy(s, i, t, j, n);
        if (finding != 0) return sheets.refuse(finding);
        sheets.copyItems(s, i, t, j, n);
        return 1;
    }

    public int write(int taker, int s) {
        if (!isTaker(taker) || !isSheet(s)) return BAD;
        if (sheets.isLost(s)) return sheets.refuse(FINDING_NULL);
        int most = Math.min(sheets.sizeOf(s), list.words());
        int[] said = answers.rowNow(taker);
        for (int i = 0; i < most; i++) sheets.putItem(s, i, said[i]);
        return most;
    }

    public int count(int what) {
        switch (what) {
            case 0: return dictionary.bands();
            case 1: return shelf.books();
            case 2: return list.length();
            case 3: return list.words();
            case 4: return answers.told();
            case 5: return tallies.askedOfAll();
            case 6: return dictionary.allSizes();
            case 7: return answers.viewTime();
            case 8: return sheets.latestFinding();
            default: return BAD;
        }
    }

    public long digest() {
        long h = 17;
        for (int what = 0; what <= 7; what++) h = 31 * h + count(what);
        h = 31 * h + fault();
        for (int taker = 0; taker < TAKERS; taker++) {
            h = digestOfAnswers(h, taker);
            for (int book = 0; book < shelf.books(); book++) {
                h = 31 * h + cover(taker, book, 0);
                h = 31 * h + cover(taker, book, 1);
            }
            h = 31 * h + easiest(taker);
            h = 31 * h + ladder(taker, 50, 2, NONE);
            h = 31 * h + next(taker);
        }
        for (int band = 0; band < dictionary.bands(); band++) h = 31 * h + deal(20, band);
        for (int what = BOTH; what <= NEITHER; what++) h = 31 * h + pair(0, 1, what);
        return 31 * h + better(0, 1);
    }

    private long digestOfAnswers(long before, int taker) {
        long h = 31 * before + asked(taker, NONE, 0);
        h = 31 * h + asked(taker, NONE, 1);
        for (int band = 0; band < dictionary.bands(); band++) {
            h = 31 * h + asked(taker, band, 0);
            h = 31 * h + asked(taker, band, 1);
            for (int k = 0; k < 4; k++) h = 31 * h + share(taker, band, k / 2, k % 2);
        }
        for (int k = 0; k < 4; k++) h = 31 * h + knows(taker, k / 2, k % 2);
        return h;
    }

    // ---- what the acts above share

    private static boolean isIn(int v, int least, int most) {
        return v >= least && v <= most;
    }

    private static boolean isTaker(int taker) {
        return isIn(taker, 0, TAKERS - 1);
    }

    private static boolean areTwo(int a, int b) {
        return isTaker(a) && isTaker(b) && a != b;
    }

    private static boolean isTime(int time) {
        return isIn(time, 0, LAST_TIME);
    }

    private static boolean maySay(int says) {
        return isIn(says, UNSAID, YES);
    }

    private static boolean isSheet(int s) {
        return isIn(s, 0, SHEETS - 1);
    }

    private static boolean isForm(int form) {
        return isIn(form, 0, FORMS - 1);
    }

    private boolean isBand(int band) {
        return isIn(band, 0, dictionary.bands() - 1);
    }

    private boolean isBook(int book) {
        return isIn(book, 0, shelf.books() - 1);
    }

    private boolean mayBeTold(int time) {
        return isTime(time) && time >= answers.latestTime();
    }

    /** As an answer that is a long tells a refusal. */
    private static long refusal(int code) {
        return LEAST_LONG - code;
    }

    /** Where LEARNT (0), FORGOTTEN (1) and KEPT (2) stand if the first row is of the earlier time. */
    private static int crossOfLearning(int what) {
        if (what == 0) return SECOND_ALONE;
        return what == 1 ? FIRST_ALONE : BOTH;
    }

    private int pairCount(int a, int b, int cross) {
        return list.countCrossed(answers.rowNow(a), answers.rowNow(b), cross);
    }

    private void readListAnew() {
        list.readAnew(dictionary.bands());
        countAnew();
    }

    private void countAnew() {
        tallies.countAnew(list, answers);
    }

    /** A fraction in lowest terms, made once and set again and again. */
    private static final class Fraction {
        private long above = 0;
        private long below = 1;

        /** a by b, in lowest terms; a is not below 0, b above it. */
        void put(long a, long b) {
            long common = a;
            long rest = b;
            // Two longs have their greatest divisor in fewer than a hundred steps.
            for (int step = 0; step < 100 && rest != 0; step++) {
                long smaller = common % rest;
                common = rest;
                rest = smaller;
            }
            above = common > 0 ? a / common : 0;
            below = common > 0 ? b / common : 1;
        }

        void putSame(Fraction other) {
            above = other.above;
            below = other.below;
        }

        void addTimes(Fraction other, long times) {
            put(above * other.below + other.above * times * below, below * other.below);
        }

        void divideBy(long n) {
            put(above, below * n);
        }

        long part(int what) {
            return what == 0 ? above : below;
        }

        boolean isMoreThan(Fraction other) {
            return above * other.below > other.above * below;
        }

        boolean isHundredths(int p) {
            return above * 100 >= p * below;
        }
    }

    /** The bands with their sizes, and which of them to ask. */
    private static final class Dictionary {
        private final int[] sizes = new int[MOST_BANDS];
        private final int[] held = new int[MOST_BANDS];
        private final long[] gainAbove = new long[MOST_BANDS];
        private final long[] gainBelow = new long[MOST_BANDS];
        private int bands = 0;

        int bands() {
            return bands;
        }

        int sizeOf(int band) {
            return sizes[band];
        }

        int allSizes() {
            int sum = 0;
            for (int band = 0; band < bands; band++) sum += sizes[band];
            return sum;
        }

        int addBand(int size) {
            sizes[bands] = size;
            bands++;
            return bands - 1;
        }

        int bandToAsk(Tallies tallies, int taker) {
            for (int band = 0; band < bands; band++) held[band] = tallies.askedOf(taker, band);
            int without = greatestWithout();
            if (without != NONE) return without;
            for (int band = 0; band < bands; band++) {
                long asked = held[band];
                long yeses = tallies.yesesOf(taker, band);
                gainAbove[band] = (long) sizes[band] * sizes[band] * (yeses + 1) * (asked - yeses + 1);
                gainBelow[band] = (asked + 2) * (asked + 2) * asked * (asked + 1);
            }
            return greatestGain();
        }

        int dealtTo(int band, int questions) {
            Arrays.fill(held, 0);
            for (int i = 0; i < questions; i++) {
                int to = bandToDeal();
                if (to != NONE) held[to]++;
            }
            return held[band];
        }

        private int bandToDeal() {
            int without = greatestWithout();
            if (without != NONE) return without;
            for (int band = 0; band < bands; band++) {
                gainAbove[band] = (long) sizes[band] * sizes[band];
                gainBelow[band] = (long) held[band] * (held[band] + 1);
            }
            return greatestGain();
        }

        private int greatestWithout() {
            int best = NONE;
            int most = 0;
            for (int band = 0; band < bands; band++) {
                if (held[band] == 0 && sizes[band] > most) {
                    best = band;
                    most = sizes[band];
                }
            }
            return best;
        }

        private int greatestGain() {
            int best = NONE;
            for (int band = 0; band < bands; band++) {
                if (best == NONE || gainAbove[band] * gainBelow[best] > gainAbove[best] * gainBelow[band]) best = band;
            }
            return best;
        }
    }

    /** THE LIST: its bytes, and the words that they name. */
    private static final class WordList {
        private final int[] text = new int[MOST_BYTES];
        private final int[] kinds = new int[MOST_WORDS];
        private int length = 0;
        private int words = 0;
        private int faultPlace = NONE;

        int length() {
            return length;
        }

        int words() {
            return words;
        }

        int faultPlace() {
            return faultPlace;
        }

        int kindOfWord(int word) {
            return kinds[word];
        }

        void append(int b) {
            text[length] = b;
            length++;
        }

        void empty() {
            length = 0;
        }

        void readAnew(int bands) {
            words = 0;
            faultPlace = firstFault(bands);
            if (faultPlace != NONE) words = 0;
        }

        private int firstFault(int bands) {
            if (length == 0) return NONE;
            int at = 0;
            for (int part = 0; part < MOST_BYTES && at < length; part++) {
                int kind = kindOfByte(text[at], bands);
                if (kind == NONE) return at;
                int behind = at + 1;
                int times = 1;
                if (behind < length && text[behind] == '*') {
                    int figure = behind + 1;
                    if (figure >= length || text[figure] < '2' || text[figure] > '9') return figure;
                    times = text[figure] - '0';
                    behind = figure + 1;
                }
                if (words + times > MOST_WORDS) return at;
                addWords(kind, times);
                if (behind == length) return NONE;
                if (text[behind] != ';') return behind;
                at = behind + 1;
            }
            return length;
        }

        private static int kindOfByte(int b, int bands) {
            if (b == 'f') return FALSE_KIND;
            int band = b - '0';
            return band >= 0 && band < bands ? band : NONE;
        }

        private void addWords(int kind, int times) {
            for (int i = 0; i < times; i++) kinds[words + i] = kind;
            words += times;
        }

        /** How many words that are not false were answered in both rows, and so as the cross tells. */
        int countCrossed(int[] first, int[] second, int cross) {
            int sum = 0;
            for (int word = 0; word < words; word++) {
                if (kinds[word] == FALSE_KIND || first[word] == UNSAID || second[word] == UNSAID) continue;
                if (crossOf(first[word], second[word]) == cross) sum++;
            }
            return sum;
        }

        private static int crossOf(int first, int second) {
            if (first == YES) return second == YES ? BOTH : FIRST_ALONE;
            return second == YES ? SECOND_ALONE : NEITHER;
        }
    }

    /** All answers as they were told, and what was told last as of a time. */
    private static final class Answers {
        private final int[] takers = new int[MOST_ANSWERS];
        private final int[] words = new int[MOST_ANSWERS];
        private final int[] says = new int[MOST_ANSWERS];
        private final int[] times = new int[MOST_ANSWERS];
        private final int[][] now = new int[TAKERS][MOST_WORDS];
        private final int[] earlier = new int[MOST_WORDS];
        private final int[] later = new int[MOST_WORDS];
        private int told = 0;
        private int viewTime = LAST_TIME;

        Answers() {
            for (int taker = 0; taker < TAKERS; taker++) Arrays.fill(now[taker], UNSAID);
        }

        int told() {
            return told;
        }

        int viewTime() {
            return viewTime;
        }

        int latestTime() {
            return told > 0 ? times[told - 1] : 0;
        }

        int[] rowNow(int taker) {
            return now[taker];
        }

        int[] earlierRow(int taker, int time) {
            fillAsOf(earlier, taker, time);
            return earlier;
        }

        int[] laterRow(int taker, int time) {
            fillAsOf(later, taker, time);
            return later;
        }

        void tell(int taker, int word, int says, int time) {
            takers[told] = taker;
            words[told] = word;
            this.says[told] = says;
            times[told] = time;
            told++;
            if (time <= viewTime) now[taker][word] = says;
        }

        void viewAsOf(int time) {
            viewTime = time;
            for (int taker = 0; taker < TAKERS; taker++) fillAsOf(now[taker], taker, time);
        }

        private void fillAsOf(int[] row, int taker, int time) {
            Arrays.fill(row, UNSAID);
            for (int i = 0; i < told; i++) {
                if (takers[i] == taker && times[i] <= time) row[words[i]] = says[i];
            }
        }
    }

    /** Of each taker and each kind of words: how many were answered, how many with yes. */
    private static final class Tallies {
        private final int[][] asked = new int[TAKERS][KINDS];
        private final int[][] yeses = new int[TAKERS][KINDS];
        private final Fraction truth = new Fraction();

        void countAnew(WordList list, Answers answers) {
            for (int taker = 0; taker < TAKERS; taker++) {
                Arrays.fill(asked[taker], 0);
                Arrays.fill(yeses[taker], 0);
                int[] said = answers.rowNow(taker);
                for (int word = 0; word < list.words(); word++) countWord(taker, list.kindOfWord(word), said[word]);
            }
        }

        private void countWord(int taker, int kind, int says) {
            if (says == UNSAID) return;
            asked[taker][kind]++;
            if (says == YES) yeses[taker][kind]++;
        }

        int askedOf(int taker, int kind) {
            return asked[taker][kind];
        }

        int yesesOf(int taker, int kind) {
            return yeses[taker][kind];
        }

        int askedOfAll() {
            int sum = 0;
            for (int taker = 0; taker < TAKERS; taker++) {
                for (int kind = 0; kind < KINDS; kind++) sum += asked[taker][kind];
            }
            return sum;
        }

        boolean hasAskedBand(int taker) {
            for (int band = 0; band < MOST_BANDS; band++) {
                if (asked[taker][band] > 0) return true;
            }
            return false;
        }

        /** Whether GUESS is 1. */
        boolean guessesAll(int taker) {
            int falseOnes = asked[taker][FALSE_KIND];
            return falseOnes > 0 && yeses[taker][FALSE_KIND] == falseOnes;
        }

        void putGuess(int taker, Fraction into) {
            into.put(yeses[taker][FALSE_KIND], Math.max(1, asked[taker][FALSE_KIND]));
        }

        void putPlain(int taker, int band, Fraction into) {
            into.put(yeses[taker][band], Math.max(1, asked[taker][band]));
        }

        /** TRUE; 0 where it is not told. */
        void putTrue(int taker, int band, Fraction into) {
            long guessAbove = yeses[taker][FALSE_KIND];
            long guessBelow = Math.max(1, asked[taker][FALSE_KIND]);
            long here = asked[taker][band];
            long above = yeses[taker][band] * guessBelow - guessAbove * here;
            into.put(Math.max(0, above), here * (guessBelow - guessAbove));
        }

        void putKnown(int taker, Dictionary dictionary, Fraction into) {
            into.put(0, 1);
            for (int band = 0; band < dictionary.bands(); band++) {
                putTrue(taker, band, truth);
                into.addTimes(truth, dictionary.sizeOf(band));
            }
        }
    }

    /** The books with their running words, and how they are read. */
    private static final class Shelf {
        private final int[][] running = new int[MOST_BOOKS][MOST_BANDS];
        private final boolean[] wasRead = new boolean[MOST_BOOKS];
        private final boolean[] isLearned = new boolean[MOST_BANDS];
        private final int[] met = new int[MOST_BANDS];
        private final int[] rungs = new int[MOST_BOOKS];
        private final Fraction truth = new Fraction();
        private final Fraction cover = new Fraction();
        private final Fraction greatest = new Fraction();
        private int books = 0;

        int books() {
            return books;
        }

        int addBook() {
            books++;
            return books - 1;
        }

        int changeRunning(int book, int band, int v) {
            int before = running[book][band];
            running[book][band] = v;
            return before;
        }

        int rung(int i) {
            return rungs[i];
        }

        boolean putCover(Tallies tallies, int taker, int book, Fraction into) {
            startAnew();
            return putCoverOnLadder(tallies, taker, book, into);
        }

        int easiestBook(Tallies tallies, int taker) {
            startAnew();
            return bestUnread(tallies, taker, 0);
        }

        /** Reads books as long as one may be read: how many; rung() tells which. */
        int climb(Tallies tallies, int taker, Dictionary dictionary, int p, int m) {
            startAnew();
            int climbed = 0;
            for (int step = 0; step < books; step++) {
                int book = bestUnread(tallies, taker, p);
                if (book == NONE) break;
                rungs[climbed] = book;
                climbed++;
                meetWords(book, dictionary, m);
            }
            return climbed;
        }

        private void startAnew() {
            Arrays.fill(met, 0);
            for (int book = 0; book < MOST_BOOKS; book++) wasRead[book] = false;
            for (int band = 0; band < MOST_BANDS; band++) isLearned[band] = false;
        }

        private void meetWords(int book, Dictionary dictionary, int m) {
            wasRead[book] = true;
            // A band that is not there has no size, so it is never learned.
            for (int band = 0; band < dictionary.bands(); band++) {
                met[band] += running[book][band];
                if (met[band] >= m * dictionary.sizeOf(band)) isLearned[band] = true;
            }
        }

        private int bestUnread(Tallies tallies, int taker, int p) {
            int best = NONE;
            for (int book = 0; book < books; book++) {
                if (wasRead[book] || !putCoverOnLadder(tallies, taker, book, cover)) continue;
                if (!cover.isHundredths(p)) continue;
                if (best == NONE || cover.isMoreThan(greatest)) {
                    best = book;
                    greatest.putSame(cover);
                }
            }
            return best;
        }

        /** COVER with the bands learned up to here; false where it is not told. */
        private boolean putCoverOnLadder(Tallies tallies, int taker, int book, Fraction into) {
            into.put(0, 1);
            int all = 0;
            for (int band = 0; band < MOST_BANDS; band++) {
                all += running[book][band];
                if (isLearned[band]) truth.put(1, 1);
                else tallies.putTrue(taker, band, truth);
                into.addTimes(truth, running[book][band]);
            }
            if (all == 0 || tallies.guessesAll(taker)) return false;
            into.divideBy(all);
            return true;
        }
    }

    /** How likely answers are if so many words are known. */
    private static final class Chances {
        private static final int WIDTH = MOST_ASKED_FOR_MAY + 1;
        private final long[] choices = new long[(MOST_FIGURE + 1) * WIDTH];

        Chances() {
            for (int n = 0; n <= MOST_FIGURE; n++) {
                choices[n * WIDTH] = 1;
                for (int k = 1; n > 0 && k < WIDTH; k++) {
                    choices[n * WIDTH + k] = choices[(n - 1) * WIDTH + k - 1] + choices[(n - 1) * WIDTH + k];
                }
            }
        }

        /** In how many ways k of n can be drawn. */
        private long choose(int n, int k) {
            if (n < 0 || n > MOST_FIGURE || k < 0 || k >= WIDTH) return 0;
            return choices[n * WIDTH + k];
        }

        /** In how many ways, of the words drawn, just so many are known. */
        private long drawWays(int size, int known, int drawn, int hits) {
            return choose(known, hits) * choose(size - known, drawn - hits);
        }

        private long drawWaysFromTo(int size, int known, int drawn, int from, int to) {
            long sum = 0;
            for (int hits = from; hits <= to; hits++) sum += drawWays(size, known, drawn, hits);
            return sum;
        }

        int leastKnown(int size, int asked, int yeses, int x) {
            long bound = x * choose(size, asked);
            for (int known = 0; known <= size; known++) {
                if (256 * drawWaysFromTo(size, known, asked, yeses, asked) > bound) return known;
            }
            return NONE;
        }

        int greatestKnown(int size, int asked, int yeses, int x) {
            long bound = x * choose(size, asked);
            for (int known = size; known >= 0; known--) {
                if (256 * drawWaysFromTo(size, known, asked, 0, yeses) > bound) return known;
            }
            return NONE;
        }

        int likeliestKnown(int size, int asked, int yeses, int g) {
            int best = 0;
            long most = -1;
            for (int known = 0; known <= size; known++) {
                long weight = weightOfYeses(size, known, asked, yeses, g);
                if (weight > most) {
                    best = known;
                    most = weight;
                }
            }
            return best;
        }

        /**
         * The chance of just so many yeses, times 16 for each asked, and without the factor of the words
         * said not to be known: that is above 0 and the same however many are known.
         */
        private long weightOfYeses(int size, int known, int asked, int yeses, int g) {
            long sum = 0;
            for (int hits = 0; hits <= yeses; hits++) {
                long guessed = choose(asked - hits, yeses - hits) * power(g, yeses - hits) * power(16, hits);
                sum += drawWays(size, known, asked, hits) * guessed;
            }
            return sum;
        }

        private static long power(long base, int exponent) {
            long product = 1;
            for (int i = 0; i < exponent; i++) product *= base;
            return product;
        }

        /** Of all ways to turn so many, the share that is at least as uneven, in millionths. */
        int millionthsAsUneven(int turned, int lead) {
            long ways = 1;
            long uneven = 0;
            for (int k = 0; k <= turned; k++) {
                if (Math.abs(2 * k - turned) >= lead) uneven += ways;
                ways = ways * (turned - k) / (k + 1);
            }
            return (int) (uneven * 1000000 >> turned);
        }
    }

    /** Rows of items, each of a form or lost, and the latest finding. */
    private static final class Sheets {
        private final int[][] items = new int[SHEETS][MOST_ITEMS];
        private final int[] forms = new int[SHEETS];
        private final int[] sizes = new int[SHEETS];
        private int latestFinding = 0;

        Sheets() {
            Arrays.fill(sizes, LOST);
        }

        int latestFinding() {
            return latestFinding;
        }

        /** Keeps the finding: what an act answers that has it. */
        int refuse(int finding) {
            latestFinding = finding;
            return -10 - finding;
        }

        boolean isLost(int s) {
            return sizes[s] == LOST;
        }

        int sizeOf(int s) {
            return sizes[s];
        }

        int item(int s, int i) {
            return items[s][i];
        }

        void makeNew(int s, int form, int n) {
            Arrays.fill(items[s], 0);
            forms[s] = form;
            sizes[s] = n;
        }

        void drop(int s) {
            sizes[s] = LOST;
        }

        void putItem(int s, int i, int v) {
            items[s][i] = cutTo(forms[s], v);
        }

        private static int cutTo(int form, int v) {
            if (form == 0) return (byte) v;
            return form == 1 ? (short) v : v;
        }

        /** What stands against item i as of a form; 0: nothing. */
        int findingOfItem(int s, int form, int i) {
            if (isLost(s)) return FINDING_NULL;
            if (forms[s] != form) return FINDING_CAST;
            return i < 0 || i >= sizes[s] ? FINDING_INDEX : 0;
        }

        /** What stands against a copy; 0: nothing. */
        int findingOfCopy(int s, int i, int t, int j, int n) {
            if (isLost(s) || isLost(t)) return FINDING_NULL;
            if (forms[s] != forms[t]) return FINDING_STORE;
            if (i < 0 || j < 0 || n < 0) return FINDING_INDEX;
            // Subtracted, not added: a sum might wrap.
            return n > sizes[s] - i || n > sizes[t] - j ? FINDING_INDEX : 0;
        }

        void copyItems(int s, int i, int t, int j, int n) {
            System.arraycopy(items[s], i, items[t], j, n);
        }
    }
}
