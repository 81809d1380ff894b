/** Promises 27 to 37: judging, the image, acts, tapes. */
public final class ActsTest {
    private static final int BYTES = 0, SHORTS = 1, INTS = 2, LONGS = 3, BOOLEANS = 4;

    public static void main(String[] args) {
        judge();
        image();
        imageOfNothing();
        undoAgain();
        act();
        trace();
        taken();
        count();
        tape();
        item();
        read();
        shift();
        shiftRefuses();
        Due.end();
    }

    private static void due(String call, long got, long want) {
        Due.due(call, got, want);
    }

    private static void judge() {
        LargeBubble x = new LargeBubble();
        x.tape(0, LONGS, 4);
        due("27 nobody", x.judge(0, 0), -5);
        for (int b = 0; b < 3; b++) x.blower(0, 0, 3, 12);
        x.go(0);
        x.go(2);
        x.item(0, 1, 360);
        x.item(0, 3, 360);
        due("27 as told", x.judge(0, 1), -5);
        due("27 the first otherwise", x.judge(0, 0), 0);
        x.item(0, 2, 1);
        due("27 the second otherwise", x.judge(0, 1), 1);
        x.item(0, 2, 0);
        x.item(0, 3, 360 + (1L << 32));
        due("27 by all of a long", x.judge(0, 1), 2);
        due("27 otherwise ahead of the end", x.judge(0, 2), 0);
        due("27 the row ends", x.judge(0, 3), 0);
        x.item(0, 3, 360);
        due("27 the row ends behind one", x.judge(0, 3), 101);
        x.item(0, 2, 360);
        x.item(0, 3, 0);
        due("27 the row ends behind two", x.judge(0, 2), 102);
        due("27 at the end", x.judge(0, 4), 100);
        due("27 behind the end", x.judge(0, Integer.MAX_VALUE), 100);
        due("27 below 0", x.judge(0, -1), 100);
        due("27 far below 0", x.judge(0, Integer.MIN_VALUE), 100);
        due("27 holds nothing", x.judge(1, 0), 100);
        due("27 no such tape", x.judge(6, 0), -1);
        due("27 tape below 0", x.judge(-1, 0), -1);
        for (int sort : new int[] {BYTES, SHORTS, INTS, BOOLEANS}) {
            x.tape(2, sort, 4);
            due("27 no longs", x.judge(2, 0), -12);
            due("27 CAST, place below 0", x.judge(2, -1), -12);
        }
    }

    private static LargeBubble full() {
        LargeBubble x = Due.with(6, 2, 9, 20);
        x.blower(0, 0, 1, 12);
        x.row(0, 3, 7);
        x.mix(0, 4);
        x.mix(1, 2);
        x.mix(2, 1);
        x.mix(3, 50);
        Due.square(x, "coin 2 b=0");
        x.go(0);
        // The second one has a bubble by SOAP 3 .. 7 alone, TOLD by any.
        x.see(0, 0, 20);
        x.see(1, 0, 12);
        x.book(0, false);
        x.book(1, false);
        x.book(1, true);
        return x;
    }

    /** All answers that hang on what the image keeps. */
    private static long[] answers(LargeBubble x) {
        return new long[] {
            x.count(0), x.of(0, 0), x.of(0, 1), x.of(0, 2), x.of(0, 3), x.of(0, 4), x.of(1, 0), x.of(1, 4),
            x.told(0), x.told(1), x.told(2), x.told(3), x.told(4), x.told(5), x.count(2), x.count(3), x.was(),
            x.looked(), x.would(0, 3), x.would(1, 3), x.would(0, 4)};
    }

    private static void image() {
        LargeBubble x = full();
        long[] then = answers(x);
        due("28 WAS", then[16], 1 << 3 | 1 << 4 | 1 << 5 | 1 << 6 | 1 << 7);
        due("28 LOOKED at", then[17], 2);
        due("28 image", x.image(), 2);
        x.blower(3, 0, 1, 1);
        x.set(0, 0, 3);
        x.set(0, 1, 5);
        for (int part = 0; part < 4; part++) x.row(0, part, 2);
        x.go(1);
        x.go(0);
        for (int what = 0; what < 4; what++) x.mix(what, 9);
        x.pause(11);
        Due.square(x, "coin 3 b=1;wind 3 m=2");
        x.see(-1, 0, 0);
        for (int i = 0; i < 6; i++) x.see(1 - i % 2, 3, 3);
        x.book(-1, true);
        for (int i = 0; i < 12; i++) x.book(2 - i % 3, i % 2 == 0);
        x.tape(0, INTS, 3);
        x.item(0, 1, 5);
        x.act(0, 0, 1);
        Due.feed(x, "abc");
        due("29 undo", x.undo(), 2);
        long[] now = answers(x);
        for (int i = 0; i < then.length; i++) due("29 as the image, " + i, now[i], then[i]);
        int[] row = {0, 0, 0, 7};
        for (int part = 0; part < 4; part++) due("29 ROW", x.row(0, part, 0), row[part]);
        due("29 squares stay", x.count(1), 2);
        due("29 THE TEXT stays", x.count(4), 3);
        due("29 TAPES stay", x.read(0, 1), 5);
        due("29 THE TRACE stays", x.count(5), 2);
        due("29 the next square", Due.square(full(), "coin 1 b=0"), 1);
        due("29 the next blower", x.blower(1, 0, 1, 1), 2);
        due("29 its kind", x.of(2, 0), 1);
    }

    private static void imageOfNothing() {
        LargeBubble x = new LargeBubble();
        due("29 none", x.undo(), -3);
        due("28 nobody", x.image(), 0);
        x.blower(0, 0, 9, 20);
        Due.square(x, "coin 5 b=0");
        due("29 nobody", x.undo(), 0);
        due("29 nobody is there", x.of(0, 0), -1);
        x.blower(0, 0, 9, 20);
        due("29 no square holds", x.would(0, 3), 1180);
        due("29 but it is there", x.count(1), 1);
        due("29 the next has the next number", Due.square(x, "coin 3 b=0"), 1);
        due("29 and holds", x.would(0, 3), 3 * 1180);
    }

    private static void undoAgain() {
        LargeBubble x = Due.with(6, 0, 3, 12);
        x.image();
        x.set(0, 0, 9);
        x.row(0, 0, 9);
        x.undo();
        x.set(0, 0, 8);
        x.row(0, 0, 8);
        x.mix(3, 1);
        due("29 again", x.undo(), 1);
        due("29 again, cord", x.of(0, 2), 3);
        due("29 again, row", x.row(0, 0, 5), 0);
        due("29 again, dips", x.told(3), 20);
        x.set(0, 0, 7);
        due("28 another image", x.image(), 1);
        x.set(0, 0, 6);
        x.undo();
        due("29 the newest image", x.of(0, 2), 7);
        due("29 the newest image, row", x.row(0, 0, 0), 5);
    }

    private static void acts(LargeBubble x, int blower, int[] want, int[]... bodies) {
        for (int act = 0; act < 3; act++) {
            String call = "30 act(" + blower + ", " + act + ", 10)";
            due(call, x.act(blower, act, 10), want[act]);
            due("33 count(5) behind " + call, x.count(5), bodies[act].length);
            for (int i = 0; i < bodies[act].length; i++) due("31 trace(" + i + ") of " + call, x.trace(i), bodies[act][i]);
            due("31 trace behind the last of " + call, x.trace(bodies[act].length), -1);
        }
    }

    private static int[] row(int... numbers) {
        return numbers;
    }

    private static void act() {
        LargeBubble x = Due.with(0, 0, 1, 1);
        for (int kind = 0; kind < 4; kind++) x.blower(kind, kind + 3, 1, 1);
        acts(x, 1, row(11, 8, 16), row(10), row(11, 10), row(12, 11, 10));
        acts(x, 2, row(12, 14, 28), row(10), row(20, 11, 10), row(12, 20, 11, 10));
        acts(x, 3, row(33, 28, 56), row(30, 10), row(11, 30, 10), row(12, 11, 30, 10));
        acts(x, 4, row(14, 8, 15), row(10), row(11, 10), row(40, 12, 11, 10, 11, 10));
        due("30 wraps", x.act(1, 0, Integer.MAX_VALUE), Integer.MIN_VALUE);
        due("30 wraps three times", x.act(3, 0, Integer.MAX_VALUE), Integer.MAX_VALUE * 3 + 3);
        due("30 wraps twice", x.act(1, 2, 1 << 30), (1 << 31) - 4);
        LargeBubble y = Due.with(0, 0, 1, 1);
        y.blower(4, 7, 1, 1);
        y.blower(5, 2, 1, 1);
        y.blower(6, 5, 1, 1);
        acts(y, 1, row(-11, -21, -42), row(50, 10), row(51, 20, 11, 50, 10), row(12, 51, 20, 11, 50, 10));
        acts(y, 2, row(32, 30, 48), row(30, 10), row(11, 30, 10), row(60, 12, 11, 30, 10));
        acts(y, 3, row(8, 8, 17), row(71, 10), row(70, 11, 71, 10, 10),
                row(40, 12, 70, 11, 71, 10, 10, 70, 11, 71, 10, 10));
        int[][] none = {{4, 0}, {-1, 0}, {1, 3}, {1, -1}};
        for (int[] one : none) {
            y.act(1, 2, 3);
            due("30 no such one or act", y.act(one[0], one[1], 5), 0);
            due("30 no TRACE then", y.trace(0), -1);
            due("30 none ran then", y.count(5), 0);
        }
    }

    private static void trace() {
        LargeBubble x = Due.with(0, 0, 1, 1);
        due("31 at first", x.trace(0), -1);
        x.act(0, 2, 1);
        due("31 below 0", x.trace(-1), -1);
        due("31 far below 0", x.trace(Integer.MIN_VALUE), -1);
        due("31 far behind", x.trace(Integer.MAX_VALUE), -1);
        due("31 20", x.trace(20), -1);
        due("31 the last", x.trace(2), 10);
        x.act(0, 0, 1);
        due("31 of the latest alone", x.trace(1), -1);
    }

    private static void taken() {
        int[] above = {0, 0, 0, 0, 1, 2, 3};
        for (int kind = 0; kind < 7; kind++) {
            LargeBubble x = Due.with(kind, 0, 1, 1);
            for (int k = 0; k < 7; k++) {
                boolean is = k == kind || k == above[kind] || k == 0;
                due("32 kind " + kind + " for " + k, x.taken(0, k), is ? kind : -12);
            }
            due("32 k 7", x.taken(0, 7), -2);
            due("32 k -1", x.taken(0, -1), -2);
            due("32 BAD ahead of NOTHING", x.taken(1, 7), -2);
            due("32 no such one", x.taken(1, 0), -11);
            due("32 one below 0", x.taken(-1, 0), -11);
        }
    }

    private static void count() {
        LargeBubble x = full();
        Due.feed(x, "abc");
        Due.square(x, "");
        Due.feed(x, "abcd");
        x.see(0, 0, 0);
        x.book(0, true);
        x.book(0, true);
        x.act(0, 0, 0);
        int[] want = {2, 1, 3, 5, 4, 2};
        for (int what = 0; what < 6; what++) due("33 count(" + what + ")", x.count(what), want[what]);
        due("33 what 6", x.count(6), -2);
        due("33 what -1", x.count(-1), -2);
    }

    private static void tape() {
        LargeBubble x = new LargeBubble();
        due("34 no such tape", x.tape(6, 9, 99), -1);
        due("34 tape below 0", x.tape(-1, 0, 0), -1);
        due("34 sort 5", x.tape(0, 5, -1), -2);
        due("34 sort -2", x.tape(0, -2, 0), -2);
        due("34 n 61", x.tape(0, 0, 61), -2);
        due("34 n below 0", x.tape(0, 0, -1), -14);
        due("34 still nothing", x.item(0, 0, 0), -11);
        for (int sort = 0; sort < 5; sort++) {
            due("34 60", x.tape(sort, sort, 60), 1);
            due("34 the last is 0", x.read(sort, 59), 0);
            due("34 there is no more", x.read(sort, 60), Long.MIN_VALUE);
        }
        x.item(0, 0, 7);
        x.item(0, 3, 7);
        x.item(0, 59, 7);
        due("34 refused", x.tape(0, 0, 61), -2);
        due("34 as it was", x.read(0, 3), 7);
        x.tape(0, LONGS, 60);
        due("34 all 0, the first", x.read(0, 0), 0);
        due("34 all 0", x.read(0, 3), 0);
        due("34 all 0, the last", x.read(0, 59), 0);
        due("34 none", x.tape(0, BYTES, 0), 1);
        due("34 a row of none", x.item(0, 0, 0), -13);
        due("34 nothing, n 99", x.tape(0, -1, 99), 1);
        due("34 nothing there", x.item(0, 0, 0), -11);
        due("34 nothing, n below 0", x.tape(1, -1, -5), 1);
        due("34 nothing there either", x.read(1, 0), Long.MIN_VALUE);
    }

    private static void item() {
        LargeBubble x = new LargeBubble();
        due("35 no such tape", x.item(6, 0, 1), -1);
        due("35 tape below 0", x.item(-1, 0, 1), -1);
        due("35 nothing", x.item(0, 9, 1), -11);
        x.tape(0, INTS, 2);
        due("35 place 2", x.item(0, 2, 1), -13);
        due("35 place below 0", x.item(0, -1, 1), -13);
        long v = 0x123456789abcdef0L;
        long[] want = {(byte) 0xf0, (short) 0xdef0, 0x9abcdef0, v, 1};
        for (int sort = 0; sort < 5; sort++) {
            x.tape(sort, sort, 2);
            due("35 item", x.item(sort, 1, v), 1);
            due("35 its lowest bits", x.read(sort, 1), want[sort]);
            due("35 the other stays", x.read(sort, 0), 0);
            x.item(sort, 1, 1L << 40);
            due("35 high bits", x.read(sort, 1), sort == LONGS ? 1L << 40 : sort == BOOLEANS ? 1 : 0);
            x.item(sort, 1, 0);
            due("35 0", x.read(sort, 1), 0);
            x.item(sort, 1, -1);
            due("35 -1", x.read(sort, 1), sort == BOOLEANS ? 1 : -1);
        }
    }

    private static void read() {
        LargeBubble x = new LargeBubble();
        x.tape(3, LONGS, 3);
        x.item(3, 2, 12);
        due("36 item", x.read(3, 2), 12);
        due("36 place 3", x.read(3, 3), Long.MIN_VALUE);
        due("36 place below 0", x.read(3, -1), Long.MIN_VALUE);
        due("36 nothing there", x.read(2, 0), Long.MIN_VALUE);
        due("36 no such tape", x.read(6, 0), Long.MIN_VALUE);
        due("36 tape below 0", x.read(-1, 0), Long.MIN_VALUE);
        x.tape(3, -1, 0);
        due("36 nothing any more", x.read(3, 2), Long.MIN_VALUE);
    }

    private static void items(String name, LargeBubble x, int tape, int... want) {
        for (int i = 0; i < want.length; i++) due(name + ", " + i, x.read(tape, i), want[i]);
    }

    private static void shift() {
        LargeBubble x = new LargeBubble();
        x.tape(0, BYTES, 5);
        x.tape(1, BYTES, 3);
        for (int i = 0; i < 5; i++) x.item(0, i, i + 1);
        due("37 to another", x.shift(0, 1, 1, 0, 3), 3);
        items("37 to another", x, 1, 2, 3, 4);
        items("37 from", x, 0, 1, 2, 3, 4, 5);
        due("37 up", x.shift(0, 0, 0, 1, 4), 4);
        items("37 up, as they all were before", x, 0, 1, 1, 2, 3, 4);
        due("37 down", x.shift(0, 1, 0, 0, 4), 4);
        items("37 down", x, 0, 1, 2, 3, 4, 4);
        due("37 none", x.shift(0, 5, 1, 3, 0), 0);
        items("37 none", x, 1, 2, 3, 4);
        due("37 all", x.shift(1, 0, 0, 2, 3), 3);
        items("37 all", x, 0, 1, 2, 2, 3, 4);
    }

    private static void shiftRefuses() {
        LargeBubble x = new LargeBubble();
        x.tape(0, BYTES, 5);
        x.tape(1, BYTES, 3);
        x.tape(2, SHORTS, 3);
        due("37 no such tape", x.shift(6, 0, 3, 0, 1), -1);
        due("37 no such other", x.shift(3, 0, 6, 0, 1), -1);
        due("37 tape below 0", x.shift(-1, 0, 0, 0, 1), -1);
        due("37 other below 0", x.shift(0, 0, -1, 0, 1), -1);
        due("37 nothing", x.shift(3, 0, 2, 0, 9), -11);
        due("37 nothing in the other", x.shift(0, 0, 3, 0, 9), -11);
        due("37 nothing in both", x.shift(3, 0, 3, 0, 0), -11);
        due("37 unlike sorts", x.shift(0, 0, 2, 0, 9), -12);
        int[][] places = {{-1, 0, 1}, {0, -1, 1}, {0, 0, -1}, {0, 0, 4}, {3, 0, 3}, {0, 1, 3}, {6, 0, 0}, {0, 4, 0},
            {Integer.MAX_VALUE, 0, 1}, {1, 0, Integer.MAX_VALUE}, {0, Integer.MAX_VALUE, Integer.MAX_VALUE},
            {Integer.MIN_VALUE, 0, Integer.MIN_VALUE}};
        for (int[] p : places) {
            due("37 PLACE " + p[0] + " " + p[1] + " " + p[2], x.shift(0, p[0], 1, p[1], p[2]), -13);
        }
        due("37 up to both ends", x.shift(0, 2, 1, 0, 3), 3);
    }
}
