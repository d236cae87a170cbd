import java.lang.management.ManagementFactory;
import java.util.Random;

/** No call throws, whatever is asked in whatever state; no call makes objects. */
final class CarefulTest {
    private static final int[] ODD = {Integer.MIN_VALUE, Integer.MIN_VALUE + 1, -1000, -9, -2, -1, 0, 1, 2, 3, 4, 5, 6, 7, 8,
        9, 10, 15, 16, 31, 32, 63, 64, 98, 99, 100, 255, 256, 300, 301, 65536, Integer.MAX_VALUE - 1, Integer.MAX_VALUE};
    private static final String[] TEXTS = {"", "board 2 2;", "law 1 0 1 2 3 4 5 6 7;", "pit 0 0;pit 3 3;law 2 3 7;",
        "board 4 4;law 1 0 2 4 6;law 2 1 3 5 7;law 1 0 1 2 3 4 5 6 7;bell 1 1;refuses 0 2;refuses 1 2;wall 2 2;",
        "law 1 0;wall 0 0;wall 3 3;", "board 3 3;law 2 0 4;man 0 1 1;man 1 1 1;", "board 9", "law 1 1 1;", "\u00ff"};

    private final Random random;

    private CarefulTest(int seed) {
        random = new Random(seed);
    }

    public static void main(String[] args) {
        for (int seed = 0; seed < 300; seed++) new CarefulTest(seed).ask();
        makesNothing();
        Checks.end();
    }

    private int odd() {
        return random.nextInt(4) == 0 ? random.nextInt(6) : ODD[random.nextInt(ODD.length)];
    }

    private void ask() {
        OthersMan x = new OthersMan();
        for (int i = 0; i < 700; i++) {
            if (random.nextInt(60) == 0) Checks.typed(x, TEXTS[random.nextInt(TEXTS.length)]);
            Checks.due("a call answers", one(x) == Long.MIN_VALUE ? 1 : 0, 0);
        }
    }

    private long one(OthersMan x) {
        switch (random.nextInt(28)) {
            case 0: return x.type(random.nextLong(), odd());
            case 1: return x.clear();
            case 2: return x.board();
            case 3: return x.cell(odd(), odd());
            case 4: return x.law(odd(), odd());
            case 5: return x.man(odd(), odd());
            case 6: return x.refuse(odd());
            case 7: return x.pass();
            case 8: return x.now(odd());
            case 9: return random.nextInt(20) == 0 ? x.anew() : 0;
            case 10: return x.safe(odd(), odd());
            case 11: return x.safest(odd());
            case 12: return x.value(odd());
            case 13: return x.best(odd());
            case 14: return x.refuses(odd(), odd());
            case 15: return x.worth(odd(), odd());
            case 16: return x.bag(odd(), odd(), odd());
            case 17: return x.fairest(odd());
            case 18: return x.even(odd());
            case 19: return x.rounds(odd());
            case 20: return x.lot(odd());
            case 21: return x.rate(odd(), odd());
            case 22: return x.keep(odd());
            case 23: return x.back(odd());
            case 24: return x.count(odd());
            case 25: return x.trace();
            default: return x.tell(odd());
        }
    }

    /** All calls of a run live in one room, so what a call makes is counted. */
    private static void makesNothing() {
        com.sun.management.ThreadMXBean threads = (com.sun.management.ThreadMXBean) ManagementFactory.getThreadMXBean();
        if (!threads.isThreadAllocatedMemorySupported()) return;
        long me = Thread.currentThread().getId();
        OthersMan x = Checks.told(TEXTS[4]);
        int sum = dear(x);
        long before = threads.getThreadAllocatedBytes(me);
        for (int i = 0; i < 200; i++) sum += dear(x);
        long made = threads.getThreadAllocatedBytes(me) - before;
        Checks.due("4000 dear calls make nothing (" + made + " bytes; " + sum + ")", made < 20000 ? 0 : made, 0);
    }

    private static int dear(OthersMan x) {
        int sum = x.type(0x70697420312032L, 7) + x.type(';', 1) + x.clear() + x.type(32, 1) + x.clear();
        sum += x.value(5) + x.best(5) + x.refuses(7, 5) + x.worth(0, 4) + x.worth(1, 4) + x.bag(2, 2, 4);
        sum += x.fairest(3) + x.even(4) + x.rounds(99) + x.safe(0, 9) + x.safest(1) + x.keep(0) + x.back(0);
        return sum + x.rate(3, 0) + x.count(4) + x.man(0, 4) + x.anew();
    }
}
