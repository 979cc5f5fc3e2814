import java.math.BigInteger;
import java.util.ArrayList;
import java.util.List;

// Long runs of calls on WordsKnown and on a slow second writing of the document, answer against answer.
public final class OracleRuns {

    // An object is used for 512 calls at most; a step makes some six of them.
    private static final int RUNS = 450, STEPS = 212, CALLS = 512, MOST_OF_A_STEP = 10;

    /** The document in its slowest form: nothing is kept but what was told, all is counted anew. */
    static final class Oracle {
        static final int NONE = -1, BAD = -2, NOT = -3, FULL = -4;
        final List<Integer> sizes = new ArrayList<>();
        final List<int[]> books = new ArrayList<>();
        final List<int[]> answers = new ArrayList<>();
        String text = "";
        int asOf = 999, finding = 0;
        final Object[] sheets = new Object[4];

        // ---- fractions of BigIntegers

        record Q(BigInteger a, BigInteger b) {
            static Q of(long a, long b) { return new Q(BigInteger.valueOf(a), BigInteger.valueOf(b)).low(); }
            Q low() {
                BigInteger g = a.gcd(b);
                Q q = g.signum() == 0 ? this : new Q(a.divide(g), b.divide(g));
                return q.b.signum() < 0 ? new Q(q.a.negate(), q.b.negate()) : q;
            }
            Q plus(Q o) { return new Q(a.multiply(o.b).add(o.a.multiply(b)), b.multiply(o.b)).low(); }
            Q minus(Q o) { return plus(new Q(o.a.negate(), o.b)); }
            Q times(Q o) { return new Q(a.multiply(o.a), b.multiply(o.b)).low(); }
            Q by(Q o) { return new Q(a.multiply(o.b), b.multiply(o.a)).low(); }
            int compare(Q o) { return a.multiply(o.b).compareTo(o.a.multiply(b)); }
            long part(int what) { return (what == 0 ? a : b).longValueExact(); }
        }
        static final Q ZERO = Q.of(0, 1), ONE = Q.of(1, 1);

        // ---- the list

        /** The kinds of the words, or a row of one item: -1 less the fault. */
        List<Integer> parse() {
            List<Integer> words = new ArrayList<>();
            if (text.isEmpty()) return words;
            int start = 0;
            for (String part : text.split(";", -1)) {
                int odd = oddPlace(part);
                if (odd >= 0) return List.of(-1 - start - odd);
                boolean starred = part.length() > 1 && part.charAt(1) == '*';
                int times = starred ? part.charAt(2) - '0' : 1;
                if (words.size() + times > 40) return List.of(-1 - start);
                int kind = part.charAt(0) == 'f' ? 6 : part.charAt(0) - '0';
                for (int i = 0; i < times; i++) words.add(kind);
                if (part.length() > 1 && !starred) return List.of(-1 - start - 1);
                if (part.length() > 3) return List.of(-1 - start - 3);
                start += part.length() + 1;
            }
            return words;
        }

        /** Where a part can't be a part from its first bytes on; -1: it can. */
        int oddPlace(String part) {
            if (part.isEmpty()) return 0;
            char c = part.charAt(0);
            if (c != 'f' && (c < '0' || c >= '0' + sizes.size())) return 0;
            if (part.length() == 1 || part.charAt(1) != '*') return -1;
            return part.length() == 2 || part.charAt(2) < '2' || part.charAt(2) > '9' ? 2 : -1;
        }

        List<Integer> words() {
            List<Integer> words = parse();
            return words.isEmpty() || words.get(0) >= 0 ? words : List.of();
        }

        int fault() {
            List<Integer> words = parse();
            return words.isEmpty() || words.get(0) >= 0 ? NONE : -1 - words.get(0);
        }

        int says(int taker, int word, int time) {
            for (int i = answers.size() - 1; i >= 0; i--) {
                int[] a = answers.get(i);
                if (a[0] == taker && a[1] == word && a[3] <= time) return a[2];
            }
            return -1;
        }

        int tally(int taker, int kind, boolean yesAlone) {
            int n = 0;
            List<Integer> words = words();
            for (int w = 0; w < words.size(); w++) {
                int says = says(taker, w, asOf);
                if (words.get(w) == kind && (says == 1 || says == 0 && !yesAlone)) n++;
            }
            return n;
        }

        int a(int taker, int band) { return tally(taker, band, false); }
        int y(int taker, int band) { return tally(taker, band, true); }

        static boolean in(int v, int least, int most) { return least <= v && v <= most; }
        boolean taker(int t) { return in(t, 0, 3); }
        boolean band_(int b) { return in(b, 0, sizes.size() - 1); }
        boolean book_(int b) { return in(b, 0, books.size() - 1); }
        boolean timeNow(int time) {
            return in(time, 0, 999) && (answers.isEmpty() || time >= answers.get(answers.size() - 1)[3]);
        }
        static long no(int code) { return Long.MIN_VALUE + Math.abs(code); }

        // ---- acts

        int band(int size) {
            if (!in(size, 1, 99)) return BAD;
            if (sizes.size() == 6) return FULL;
            sizes.add(size);
            return sizes.size() - 1;
        }

        int book() {
            if (books.size() == 6) return FULL;
            books.add(new int[6]);
            return books.size() - 1;
        }

        int run(int book, int band, int v) {
            if (!book_(book) || !in(band, 0, 5) || !in(v, 0, 99)) return BAD;
            int was = books.get(book)[band];
            books.get(book)[band] = v;
            return was;
        }

        int type(int b) {
            if (!in(b, 0, 255)) return BAD;
            if (text.length() == 80) return FULL;
            text += (char) b;
            return text.length();
        }

        int wipe() {
            int n = text.length();
            text = "";
            return n;
        }

        int word(int w) {
            if (!in(w, 0, 39)) return BAD;
            return w < words().size() ? words().get(w) : NONE;
        }

        int answer(int t, int w, int says, int time) {
            if (!taker(t) || !in(w, 0, 39) || !in(says, -1, 1) || !timeNow(time)) return BAD;
            if (answers.size() == 120) return FULL;
            answers.add(new int[] {t, w, says, time});
            return answers.size();
        }

        int find(int n) {
            finding = n;
            return -10 - n;
        }

        int read(int s, int t, int time) {
            if (!in(s, 0, 3) || !taker(t) || !timeNow(time)) return BAD;
            if (sheets[s] == null) return find(1);
            int came = 0;
            while (came < length(s) && answer(t, came, at(s, came), time) > 0) came++;
            return came;
        }

        int asOf(int time) {
            if (!in(time, 0, 999)) return BAD;
            int was = asOf;
            asOf = time;
            return was;
        }

        int asked(int t, int band, int what) {
            if (!taker(t) || band != NONE && !band_(band) || !in(what, 0, 1)) return BAD;
            return tally(t, band == NONE ? 6 : band, what == 1);
        }

        Q guess(int t) { return a(t, 6) == 0 ? ZERO : Q.of(y(t, 6), a(t, 6)); }

        /** TRUE; null: NOT. */
        Q truth(int t, int band) {
            if (a(t, band) == 0 || guess(t).compare(ONE) == 0) return null;
            Q q = Q.of(y(t, band), a(t, band)).minus(guess(t)).by(ONE.minus(guess(t)));
            return q.compare(ZERO) < 0 ? ZERO : q;
        }

        long share(int t, int band, int which, int what) {
            if (!taker(t) || !band_(band) || !in(which, 0, 1) || !in(what, 0, 1)) return no(BAD);
            if (a(t, band) == 0) return no(NOT);
            Q q = which == 0 ? Q.of(y(t, band), a(t, band)) : truth(t, band);
            return q == null ? no(NOT) : q.part(what);
        }

        long knows(int t, int which, int what) {
            if (!taker(t) || !in(which, 0, 1) || !in(what, 0, 1)) return no(BAD);
            if (which == 0) return guess(t).part(what);
            Q sum = null;
            for (int b = 0; b < sizes.size(); b++) {
                Q q = truth(t, b);
                if (q != null) sum = (sum == null ? ZERO : sum).plus(q.times(Q.of(sizes.get(b), 1)));
            }
            return sum == null ? no(NOT) : sum.part(what);
        }

        static BigInteger choose(int n, int k) {
            if (k < 0 || k > n) return BigInteger.ZERO;
            BigInteger c = BigInteger.ONE;
            for (int i = 0; i < k; i++) c = c.multiply(BigInteger.valueOf(n - i)).divide(BigInteger.valueOf(i + 1));
            return c;
        }

        /** The chance that of n drawn from size words, known of them known, just i are known. */
        static Q drawn(int size, int known, int n, int i) {
            return new Q(choose(known, i).multiply(choose(size - known, n - i)), choose(size, n)).low();
        }

        int may(int t, int band, int x, int end) {
            if (!taker(t) || !band_(band) || !in(x, 0, 255) || !in(end, 0, 1)) return BAD;
            int n = a(t, band), y = y(t, band), size = sizes.get(band);
            if (n == 0) return NOT;
            if (n > 8 || n > size) return FULL;
            int found = NONE;
            for (int k = 0; k <= size; k++) {
                Q chance = ZERO;
                for (int i = end == 0 ? y : 0; i <= (end == 0 ? n : y); i++) chance = chance.plus(drawn(size, k, n, i));
                if (chance.compare(Q.of(x, 256)) > 0 && (end == 1 || found == NONE)) found = k;
            }
            return found;
        }

        int likeliest(int t, int band, int g) {
            if (!taker(t) || !band_(band) || !in(g, 0, 15)) return BAD;
            int n = a(t, band), y = y(t, band), size = sizes.get(band);
            if (n == 0) return NOT;
            if (n > 5 || n > size) return FULL;
            int best = -1;
            Q most = ZERO;
            for (int k = 0; k <= size; k++) {
                Q chance = ZERO;
                for (int i = 0; i <= y; i++) {
                    Q c = drawn(size, k, n, i).times(new Q(choose(n - i, y - i), BigInteger.ONE));
                    for (int j = 0; j < y - i; j++) c = c.times(Q.of(g, 16));
                    for (int j = 0; j < n - y; j++) c = c.times(Q.of(16 - g, 16));
                    chance = chance.plus(c);
                }
                if (best < 0 || chance.compare(most) > 0) {
                    best = k;
                    most = chance;
                }
            }
            return best;
        }

        /** COVER with some bands learned; null: NOT. */
        Q coverOf(int t, int book, boolean[] learned) {
            if (guess(t).compare(ONE) == 0) return null;
            Q sum = ZERO;
            int all = 0;
            for (int b = 0; b < 6; b++) {
                int running = books.get(book)[b];
                all += running;
                Q q = learned[b] ? ONE : b < sizes.size() ? truth(t, b) : null;
                if (q != null) sum = sum.plus(q.times(Q.of(running, 1)));
            }
            return all == 0 ? null : sum.by(Q.of(all, 1));
        }

        long cover(int t, int book, int what) {
            if (!taker(t) || !book_(book) || !in(what, 0, 1)) return no(BAD);
            Q q = coverOf(t, book, new boolean[6]);
            return q == null ? no(NOT) : q.part(what);
        }

        int best(int t, List<Integer> read, boolean[] learned, Q least) {
            int best = NONE;
            Q most = null;
            for (int book = 0; book < books.size(); book++) {
                Q q = coverOf(t, book, learned);
                if (read.contains(book) || q == null || q.compare(least) < 0) continue;
                if (most == null || q.compare(most) > 0) {
                    best = book;
                    most = q;
                }
            }
            return best;
        }

        int easiest(int t) {
            return taker(t) ? best(t, List.of(), new boolean[6], ZERO) : BAD;
        }

        int ladder(int t, int p, int m, int i) {
            if (!taker(t) || !in(p, 0, 100) || !in(m, 1, 9) || i < NONE) return BAD;
            if (guess(t).compare(ONE) == 0) return NOT;
            List<Integer> read = new ArrayList<>();
            boolean[] learned = new boolean[6];
            for (int book; (book = best(t, read, learned, Q.of(p, 100))) != NONE; ) {
                read.add(book);
                for (int b = 0; b < sizes.size(); b++) {
                    int met = 0;
                    for (int r : read) met += books.get(r)[b];
                    learned[b] = met >= m * sizes.get(b);
                }
            }
            return i == NONE ? read.size() : i < read.size() ? read.get(i) : NONE;
        }

        int pick(Q[] worth) {
            int best = NONE;
            for (int b = 0; b < worth.length; b++) {
                if (worth[b] != null && (best == NONE || worth[b].compare(worth[best]) > 0)) best = b;
            }
            return best;
        }

        int next(int t) {
            if (!taker(t)) return BAD;
            Q[] without = new Q[sizes.size()], worth = new Q[sizes.size()];
            for (int b = 0; b < sizes.size(); b++) {
                long n = a(t, b), y = y(t, b), s = sizes.get(b);
                if (n == 0) without[b] = Q.of(s, 1);
                else worth[b] = Q.of(s * s * (y + 1) * (n - y + 1), (n + 2) * (n + 2) * n * (n + 1));
            }
            return pick(without) != NONE ? pick(without) : pick(worth);
        }

        int deal(int n, int band) {
            if (!in(n, 0, 99) || !band_(band)) return BAD;
            int[] held = new int[sizes.size()];
            for (int k = 0; k < n; k++) {
                Q[] without = new Q[held.length], worth = new Q[held.length];
                for (int b = 0; b < held.length; b++) {
                    long s = sizes.get(b), h = held[b];
                    if (h == 0) without[b] = Q.of(s, 1);
                    else worth[b] = Q.of(s * s, h * (h + 1));
                }
                held[pick(without) != NONE ? pick(without) : pick(worth)]++;
            }
            return held[band];
        }

        int crossed(int a, int timeA, int b, int timeB, int saysA, int saysB) {
            int n = 0;
            List<Integer> words = words();
            for (int w = 0; w < words.size(); w++) {
                if (words.get(w) != 6 && says(a, w, timeA) == saysA && says(b, w, timeB) == saysB) n++;
            }
            return n;
        }

        int pair(int a, int b, int what) {
            if (!taker(a) || !taker(b) || a == b || !in(what, 0, 3)) return BAD;
            return crossed(a, asOf, b, asOf, what < 2 ? 1 : 0, what % 2 == 0 ? 1 : 0);
        }

        long alike(int a, int b, int what) {
            if (!taker(a) || !taker(b) || a == b || !in(what, 0, 1)) return no(BAD);
            int same = pair(a, b, 0) + pair(a, b, 3), other = pair(a, b, 1) + pair(a, b, 2);
            return same + other == 0 ? no(NOT) : Q.of(same, same + other).part(what);
        }

        int better(int a, int b) {
            if (!taker(a) || !taker(b) || a == b) return BAD;
            int one = pair(a, b, 1), two = pair(a, b, 2), n = one + two;
            if (n > 24) return FULL;
            if (n == 0) return 1000000;
            BigInteger ways = BigInteger.ZERO;
            if (n <= 12) {
                for (int turn = 0; turn < 1 << n; turn++) {
                    int here = Integer.bitCount(turn);
                    if (Math.abs(here - (n - here)) >= Math.abs(one - two)) ways = ways.add(BigInteger.ONE);
                }
            } else {
                for (int k = 0; k <= n; k++) if (Math.abs(k - (n - k)) >= Math.abs(one - two)) ways = ways.add(choose(n, k));
            }
            return ways.multiply(BigInteger.valueOf(1000000)).shiftRight(n).intValueExact();
        }

        int learnt(int t, int from, int to, int what) {
            if (!taker(t) || !in(from, 0, 999) || !in(to, from, 999) || !in(what, 0, 2)) return BAD;
            return crossed(t, from, t, to, what == 0 ? 0 : 1, what == 1 ? 0 : 1);
        }

        // ---- sheets, with the machine's own arrays

        int length(int s) {
            return java.lang.reflect.Array.getLength(sheets[s]);
        }

        int form(int s) {
            return sheets[s] instanceof byte[] ? 0 : sheets[s] instanceof short[] ? 1 : 2;
        }

        int at(int s, int i) {
            return java.lang.reflect.Array.getInt(sheets[s], i);
        }

        void put(int s, int i, int v) {
            if (sheets[s] instanceof byte[] row) row[i] = (byte) v;
            if (sheets[s] instanceof short[] row) row[i] = (short) v;
            if (sheets[s] instanceof int[] row) row[i] = v;
        }

        int sheet(int s, int form, int n) {
            if (!in(s, 0, 3) || !in(form, 0, 2) || n > 60) return BAD;
            if (n < 0) return find(5);
            sheets[s] = form == 0 ? new byte[n] : form == 1 ? new short[n] : new int[n];
            return n;
        }

        int lose(int s) {
            if (!in(s, 0, 3)) return BAD;
            if (sheets[s] == null) return find(1);
            int n = length(s);
            sheets[s] = null;
            return n;
        }

        int item(int s, int form, int i) {
            if (sheets[s] == null) return 1;
            if (form(s) != form) return 3;
            return in(i, 0, length(s) - 1) ? 0 : 2;
        }

        int lay(int s, int form, int i, int v) {
            if (!in(s, 0, 3) || !in(form, 0, 2)) return BAD;
            if (item(s, form, i) != 0) return find(item(s, form, i));
            put(s, i, v);
            return 1;
        }

        int get(int s, int form, int i) {
            if (!in(s, 0, 3) || !in(form, 0, 2)) return Integer.MIN_VALUE;
            if (item(s, form, i) == 0) return at(s, i);
            find(item(s, form, i));
            return Integer.MIN_VALUE;
        }

        int copy(int s, int i, int t, int j, int n) {
            if (!in(s, 0, 3) || !in(t, 0, 3)) return BAD;
            try {
                System.arraycopy(sheets[s], i, sheets[t], j, n);
                return 1;
            } catch (NullPointerException e) {
                return find(1);
            } catch (ArrayStoreException e) {
                return find(4);
            } catch (IndexOutOfBoundsException e) {
                return find(2);
            }
        }

        int write(int t, int s) {
            if (!taker(t) || !in(s, 0, 3)) return BAD;
            if (sheets[s] == null) return find(1);
            int n = Math.min(length(s), words().size());
            for (int i = 0; i < n; i++) put(s, i, says(t, i, asOf));
            return n;
        }

        int count(int what) {
            int sum = 0;
            if (what == 5) {
                for (int t = 0; t < 4; t++) {
                    for (int w = 0; w < words().size(); w++) if (says(t, w, asOf) >= 0) sum++;
                }
            }
            if (what == 6) for (int size : sizes) sum += size;
            int[] counts = {sizes.size(), books.size(), text.length(), words().size(), answers.size(), sum, sum, asOf, finding};
            return in(what, 0, 8) ? counts[what] : BAD;
        }

        long digest() {
            List<Long> told = new ArrayList<>();
            for (int what = 0; what < 8; what++) told.add((long) count(what));
            told.add((long) fault());
            for (int t = 0; t < 4; t++) {
                told.add((long) asked(t, NONE, 0));
                told.add((long) asked(t, NONE, 1));
                for (int b = 0; b < sizes.size(); b++) {
                    for (int k = 0; k < 2; k++) told.add((long) asked(t, b, k));
                    for (int k = 0; k < 4; k++) told.add(share(t, b, k >> 1, k & 1));
                }
                for (int k = 0; k < 4; k++) told.add(knows(t, k >> 1, k & 1));
                for (int b = 0; b < books.size(); b++) for (int k = 0; k < 2; k++) told.add(cover(t, b, k));
                told.add((long) easiest(t));
                told.add((long) ladder(t, 50, 2, NONE));
                told.add((long) next(t));
            }
            for (int b = 0; b < sizes.size(); b++) told.add((long) deal(20, b));
            for (int k = 0; k < 4; k++) told.add((long) pair(0, 1, k));
            told.add((long) better(0, 1));
            long h = 17;
            for (long v : told) h = 31 * h + v;
            return h;
        }
    }

    // ---- runs

    private static long seed;
    private static int wrong = 0;
    private static int time;
    private static int used;

    /** 0 to n - 1. */
    private static int any(int n) {
        seed = seed * 6364136223846793005L + 1442695040888963407L;
        return (int) ((seed >>> 33) % n);
    }

    /** Mostly from least to most, sometimes at or beyond its edges. */
    private static int about(int least, int most) {
        int[] odd = {least - 1, most + 1, least, most, Integer.MIN_VALUE, Integer.MAX_VALUE};
        return any(24) == 0 ? odd[any(6)] : least + any(most - least + 1);
    }

    private static int aTime() {
        if (any(6) == 0) time += any(20);
        return any(30) == 0 ? about(0, 999) : Math.min(time, 999);
    }

    private static int aByte(WordsKnown x) {
        String bytes = "00112345fff***99753;;;;";
        used += 4;
        if (any(40) == 0) return about(0, 255);
        // mostly what the list can go on with
        int last = x.count(2);
        if (any(5) > 0 && x.fault() == last) return any(3) == 0 ? 'f' : '0' + any(Math.max(1, x.count(0)));
        if (any(5) > 0 && x.fault() == -1 && last > 0) return any(3) == 0 ? '*' : ';';
        return bytes.charAt(any(bytes.length()));
    }

    private static void same(String call, long got, long want) {
        used++;
        if (got == want) return;
        wrong++;
        if (wrong < 40) System.out.println(call + " answered " + got + ", the oracle " + want);
    }

    private static void tellBoth(WordsKnown x, Oracle o, String list) {
        for (int i = 0; i < list.length(); i++) same("type", x.type(list.charAt(i)), o.type(list.charAt(i)));
    }

    private static void makeRich(WordsKnown x, Oracle o) {
        int bands = any(7);
        for (int i = 0; i < bands; i++) {
            int size = any(4) == 0 ? 1 + any(6) : 1 + any(99);
            same("band", x.band(size), o.band(size));
        }
        String list = "";
        int parts = 2 + any(12);
        for (int i = 0; i < parts; i++) {
            String part = any(4) == 0 || bands == 0 ? "f" : "" + any(bands);
            if (any(2) == 0) part += "*" + (2 + any(7));
            list += (i == 0 ? "" : ";") + part;
            if (list.length() < 70) continue;
            break;
        }
        tellBoth(x, o, list);
        int books = any(7);
        for (int i = 0; i < books; i++) {
            same("book", x.book(), o.book());
            for (int b = 0; b < 6; b++) {
                int v = any(3) == 0 ? 0 : any(100);
                same("run", x.run(i, b, v), o.run(i, b, v));
            }
        }
        int all = any(110);
        for (int i = 0; i < all; i++) {
            int t = any(any(3) == 0 ? 4 : 2), w = any(40), says = any(9) == 0 ? -1 : any(2);
            time += any(3);
            same("answer", x.answer(t, w, says, time), o.answer(t, w, says, time));
        }
    }

    private static void change(WordsKnown x, Oracle o) {
        int a = about(0, 3), b = about(0, 3);
        used++;
        int form = any(4) == 0 ? about(0, 2) : a & 1;
        switch (any(18)) {
            case 0 -> { int v = about(1, 99); same("band " + v, x.band(v), o.band(v)); }
            case 1 -> same("book", x.book(), o.book());
            case 2 -> { int k = about(0, 5), v = about(0, 99); same("run", x.run(a, k, v), o.run(a, k, v)); }
            case 3, 4, 5 -> { int v = aByte(x); same("type " + v, x.type(v), o.type(v)); }
            case 6 -> { if (any(12) == 0) same("wipe", x.wipe(), o.wipe()); }
            case 7, 8, 9 -> {
                int w = any(3) == 0 ? about(0, 39) : any(Math.max(1, x.count(3))), says = about(-1, 1), at = aTime();
                same("answer", x.answer(a, w, says, at), o.answer(a, w, says, at));
            }
            case 10 -> { int at = aTime(); same("read", x.read(a, b, at), o.read(a, b, at)); }
            case 11 -> { int at = any(2) == 0 ? 999 : any(Math.min(time, 998) + 1); same("asOf", x.asOf(at), o.asOf(at)); }
            case 12 -> { int n = any(3) == 0 ? about(0, 60) : any(5); same("sheet", x.sheet(a, form, n), o.sheet(a, form, n)); }
            case 13 -> { if (any(4) == 0) same("lose", x.lose(a), o.lose(a)); }
            case 14, 15 -> {
                int i = about(0, 5), v = any(2) == 0 ? any(3) - 1 : any(1 << 30) * 3;
                same("lay", x.lay(a, form, i, v), o.lay(a, form, i, v));
            }
            case 16 -> {
                int i = about(0, 5), j = about(0, 5), n = about(0, 3);
                same("copy", x.copy(a, i, b, j, n), o.copy(a, i, b, j, n));
            }
            default -> same("write", x.write(a, b), o.write(a, b));
        }
    }

    private static void look(WordsKnown x, Oracle o) {
        used++;
        int t = about(0, 3), band = any(5) == 0 ? about(-1, 5) : any(Math.max(1, x.count(0))), what = about(0, 1), which = about(0, 1);
        switch (any(22)) {
            case 0 -> same("fault", x.fault(), o.fault());
            case 1 -> { int w = about(0, 39); same("word " + w, x.word(w), o.word(w)); }
            case 2 -> same("asked", x.asked(t, band, what), o.asked(t, band, what));
            case 3, 4 -> same("share", x.share(t, band, which, what), o.share(t, band, which, what));
            case 5 -> same("knows", x.knows(t, which, what), o.knows(t, which, what));
            case 6, 7 -> { int v = about(0, 255); same("may", x.may(t, band, v, which), o.may(t, band, v, which)); }
            case 8, 9 -> { int g = about(0, 15); same("likeliest", x.likeliest(t, band, g), o.likeliest(t, band, g)); }
            case 10 -> { int book = about(0, 5); same("cover", x.cover(t, book, what), o.cover(t, book, what)); }
            case 11 -> same("easiest", x.easiest(t), o.easiest(t));
            case 12, 13 -> {
                int p = about(0, 100), m = any(2) == 0 ? about(1, 9) : 1, i = about(-1, 5);
                same("ladder", x.ladder(t, p, m, i), o.ladder(t, p, m, i));
            }
            case 14 -> same("next", x.next(t), o.next(t));
            case 15 -> { int n = about(0, 99); same("deal", x.deal(n, band), o.deal(n, band)); }
            case 16 -> { int u = about(0, 3), k = about(0, 3); same("pair", x.pair(t, u, k), o.pair(t, u, k)); }
            case 17 -> { int u = about(0, 3); same("alike", x.alike(t, u, what), o.alike(t, u, what)); }
            case 18 -> { int u = about(0, 3); same("better", x.better(t, u), o.better(t, u)); }
            case 19 -> {
                int from = any(Math.min(time, 998) + 1), to = any(3) == 0 ? about(0, 999) : from + any(50), k = about(0, 2);
                same("learnt", x.learnt(t, from, to, k), o.learnt(t, from, to, k));
            }
            case 20 -> { int f = about(0, 2), i = about(0, 4); same("get", x.get(t, f, i), o.get(t, f, i)); }
            default -> { int k = about(0, 8); same("count " + k, x.count(k), o.count(k)); }
        }
    }

    public static void main(String[] args) {
        int calls = 0;
        for (int run = 0; run < RUNS; run++) {
            seed = run * 977L + 5;
            time = 0;
            used = 0;
            WordsKnown x = new WordsKnown();
            Oracle o = new Oracle();
            if (run % 4 > 0) makeRich(x, o);
            for (int i = 0; i < STEPS && used < CALLS - MOST_OF_A_STEP; i++) {
                if (any(3) == 0) change(x, o);
                else look(x, o);
                if (i % 40 == 0) same("digest", x.digest(), o.digest());
                calls++;
            }
            same("digest", x.digest(), o.digest());
            same("count(8)", x.count(8), o.count(8));
            if (wrong > 0) {
                System.out.println("run " + run + " goes astray");
                break;
            }
        }
        System.out.println(calls + " calls, " + wrong + " wrong");
        if (wrong != 0) System.exit(1);
    }
}
