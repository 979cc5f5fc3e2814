import java.lang.management.ManagementFactory;

// All calls of one run live in one room: what an object makes, and that its calls make nothing more.
public final class RoomUsed {

    private static final long MOST_FOR_NEW = 40_000, MOST_FOR_CALLS = 4_000;

    // Eight calls each, behind some 200 that make the object rich: 512 at most.
    private static final int ROUNDS = 37;

    private static long allocated() {
        return ((com.sun.management.ThreadMXBean) ManagementFactory.getThreadMXBean())
            .getThreadAllocatedBytes(Thread.currentThread().getId());
    }

    private static WordsKnown rich() {
        WordsKnown x = new WordsKnown();
        for (int i = 0; i < 6; i++) {
            x.band(99 - i);
            x.book();
            for (int band = 0; band < 6; band++) x.run(i, band, 7 + (13 * i + 29 * band) % 90);
        }
        String list = "0*7;1*6;2*5;3*4;4*3;5*2;f*9;f*4";
        for (int i = 0; i < list.length(); i++) x.type(list.charAt(i));
        for (int i = 0; i < 120; i++) x.answer(i % 3, i / 3, (i * 7 / 5) % 2, i);
        x.sheet(0, 0, 60);
        x.sheet(1, 2, 60);
        return x;
    }

    private static long callAll(WordsKnown x) {
        long sum = 0;
        for (int i = 0; i < ROUNDS; i++) {
            sum += x.digest() + x.learnt(0, 3, 90, 0) + x.may(0, 1, i, 0) + x.likeliest(0, 5, i % 16);
            sum += x.asOf(i) + x.write(0, 1) + x.sheet(0, i % 3, i % 60) + x.read(1, 0, 500);
        }
        return sum;
    }

    public static void main(String[] args) {
        callAll(rich());
        allocated();
        long start = allocated();
        WordsKnown x = new WordsKnown();
        long made = allocated();
        WordsKnown y = rich();
        long before = allocated();
        long sum = callAll(y);
        long used = allocated() - before;
        System.out.println("a new object: " + (made - start) + " bytes; the calls of one: " + used + " bytes");
        if (made - start > MOST_FOR_NEW || used > MOST_FOR_CALLS || x.digest() == sum) System.exit(1);
    }
}
