import java.lang.management.ManagementFactory;

/** No call throws, whatever its arguments are, and 512 calls make little. */
public final class RoomTest {
    private static final int[] EDGES = {
        Integer.MIN_VALUE, Integer.MIN_VALUE + 1, -1000, -2, -1, 0, 1, 2, 3, 4, 5, 6, 7, 9, 10, 12, 20, 31, 59, 60, 61, 99,
        100, 127, 128, 10000, Integer.MAX_VALUE - 1, Integer.MAX_VALUE};
    private static final long BYTES_OF_A_RUN = 20_000;

    public static void main(String[] args) {
        for (int fullness = 0; fullness < 3; fullness++) {
            for (int call = 0; call < 36; call++) edges(fullness, call);
        }
        com.sun.management.ThreadMXBean bean = (com.sun.management.ThreadMXBean) ManagementFactory.getThreadMXBean();
        for (int call = 0; call < 36; call++) room(bean, call);
        Due.end();
    }

    private static void edges(int fullness, int call) {
        LargeBubble x = object(fullness);
        int calls = 0;
        for (int a : EDGES) {
            for (int b : EDGES) {
                if (++calls % 200 == 0) x = object(fullness);
                any(x, call, a, b, a == 0 ? b : b == 0 ? a : 1);
            }
        }
        Due.due("calls that ended", calls, EDGES.length * EDGES.length);
    }

    private static void room(com.sun.management.ThreadMXBean bean, int call) {
        LargeBubble x = object(2);
        long before = bean.getCurrentThreadAllocatedBytes();
        for (int i = 0; i < 400; i++) any(x, call, i % 5, i % 2, 3);
        long made = bean.getCurrentThreadAllocatedBytes() - before;
        Due.due("bytes made by 400 calls of " + call + ": " + made, made < BYTES_OF_A_RUN ? 1 : 0, 1);
    }

    /** 0: new, 1: with some of all, 2: full. */
    private static LargeBubble object(int fullness) {
        LargeBubble x = new LargeBubble();
        for (int i = 0; i < fullness * 3 - 1; i++) x.blower((i + 4) % 7, i, 9, 50);
        if (fullness > 0) Due.square(x, "wind 1 m>3&!(s=2|f<4)|b=1;dry 3 m=1;coin 9 v<5;wind 2 k=6");
        for (int i = 0; i < fullness * 3; i++) {
            x.see(0, i, i);
            x.book(0, true);
            x.tape(i, i % 5, 10 * i);
        }
        if (fullness == 2) {
            x.image();
            x.act(0, 2, 3);
            x.mix(3, 99);
        }
        return x;
    }

    private static long any(LargeBubble x, int call, int a, int b, int c) {
        switch (call) {
            case 0: return x.blower(a, b, c, 1);
            case 1: return x.of(a, b);
            case 2: return x.set(a, b, c);
            case 3: return x.mix(a, b);
            case 4: return x.row(a, b, c);
            case 5: return x.feed(a);
            case 6: return x.square();
            case 7: return x.told(a);
            case 8: return x.pause(a);
            case 9: return x.go(a);
            case 10: return x.would(a, b);
            case 11: return x.aim(a, b);
            case 12: return x.cord(a, b);
            case 13: return x.best(a, b);
            case 14: return x.when(a, b);
            case 15: return x.day(a, b);
            case 16: return x.most(a);
            case 17: return x.longest(a, b);
            default: return anyBehind(x, call, a, b, c);
        }
    }

    private static long anyBehind(LargeBubble x, int call, int a, int b, int c) {
        switch (call) {
            case 18: return x.see(a, b, c);
            case 19: return x.was();
            case 20: return x.calm(a);
            case 21: return x.odds(a, b);
            case 22: return x.mean(a, b);
            case 23: return x.book(a, b > 0);
            case 24: return x.looked();
            case 25: return x.judge(a, b);
            case 26: return x.image();
            case 27: return x.undo();
            case 28: return x.act(a, b, c);
            case 29: return x.trace(a);
            case 30: return x.taken(a, b);
            case 31: return x.count(a);
            case 32: return x.tape(a, b, c);
            case 33: return x.item(a, b, c);
            case 34: return x.read(a, b);
            default: return x.shift(a, b, a, c, b) + x.shift(a, b, b, a, c) + x.shift(c, a, c, b, a);
        }
    }
}
