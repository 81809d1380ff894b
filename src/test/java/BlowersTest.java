/** Promises 1 to 10: blowers, the bucket, squares. */
public final class BlowersTest {
    public static void main(String[] args) {
        newObject();
        blower();
        of();
        set();
        mix();
        row();
        feed();
        squareFaults();
        squareLimits();
        told();
        pause();
        Due.end();
    }

    private static void due(String call, long got, long want) {
        Due.due(call, got, want);
    }

    private static void newObject() {
        LargeBubble x = new LargeBubble();
        for (int what = 0; what < 6; what++) due("1 count(" + what + ")", x.count(what), 0);
        int[] bucket = {5, 3, 0, 20, 30, 0};
        for (int what = 0; what < 6; what++) due("1 told(" + what + ")", x.told(what), bucket[what]);
        due("1 undo", x.undo(), LargeBubble.STATE);
        due("1 most", x.most(1), -5);
        due("1 NONE", LargeBubble.NONE, -1);
        due("1 BAD", LargeBubble.BAD, -2);
        due("1 STATE", LargeBubble.STATE, -3);
        due("1 FULL", LargeBubble.FULL, -4);
        due("1 NO", LargeBubble.NO, Long.MIN_VALUE);
        for (int tape = 0; tape < 6; tape++) due("1 item", x.item(tape, 0, 1), -11);
    }

    private static void blower() {
        LargeBubble x = new LargeBubble();
        due("2 kind -1", x.blower(-1, 0, 1, 1), -1);
        due("2 kind 7", x.blower(7, 0, 1, 1), -1);
        due("2 kind ahead of v", x.blower(7, 10, 1, 1), -1);
        due("2 v -1", x.blower(0, -1, 1, 1), -2);
        due("2 v 10", x.blower(0, 10, 1, 1), -2);
        due("2 cord 0", x.blower(0, 0, 0, 1), -2);
        due("2 cord 10", x.blower(0, 0, 10, 1), -2);
        due("2 aim 0", x.blower(0, 0, 1, 0), -2);
        due("2 aim 61", x.blower(0, 0, 1, 61), -2);
        due("2 still nobody", x.count(0), 0);
        due("2 first", x.blower(0, 0, 1, 1), 0);
        due("2 second", x.blower(6, 9, 9, 60), 1);
        x.blower(3, 0, 1, 1);
        x.blower(3, 0, 1, 1);
        due("2 fifth", x.blower(2, 0, 1, 1), 4);
        due("2 FULL", x.blower(2, 0, 1, 1), -4);
        due("2 NONE ahead of FULL", x.blower(8, 0, 1, 1), -1);
        due("2 BAD ahead of FULL", x.blower(0, 0, 1, 99), -2);
        due("2 five", x.count(0), 5);
    }

    private static void of() {
        LargeBubble x = new LargeBubble();
        for (int kind = 2; kind < 7; kind++) x.blower(kind, kind + 1, kind + 2, kind * 10);
        for (int b = 0; b < 5; b++) {
            due("3 kind", x.of(b, 0), b + 2);
            due("3 v", x.of(b, 1), b + 3);
            due("3 cord", x.of(b, 2), b + 4);
            due("3 aim", x.of(b, 3), (b + 2) * 10);
            due("3 coins", x.of(b, 4), 0);
        }
        due("3 no such what", x.of(0, 5), -1);
        due("3 what below 0", x.of(0, -1), -1);
        due("3 no such one", x.of(5, 0), -1);
        due("3 one below 0", x.of(-1, 0), -1);
        LargeBubble rich = Due.with(0, 0, 3, 12);
        rich.go(0);
        due("3 coins of a go", rich.of(0, 4), 360);
    }

    private static void set() {
        LargeBubble x = Due.with(0, 0, 3, 12);
        due("4 cord", x.set(0, 0, 9), 3);
        due("4 cord was 9", x.set(0, 0, 1), 9);
        due("4 aim", x.set(0, 1, 60), 12);
        due("4 aim was 60", x.set(0, 1, 1), 60);
        due("4 cord 0", x.set(0, 0, 0), -2);
        due("4 cord 10", x.set(0, 0, 10), -2);
        due("4 aim 0", x.set(0, 1, 0), -2);
        due("4 aim 61", x.set(0, 1, 61), -2);
        due("4 what 2", x.set(0, 2, 0), -1);
        due("4 what -1", x.set(0, -1, 1), -1);
        due("4 no such one", x.set(1, 0, 0), -1);
        due("4 one below 0", x.set(-1, 0, 1), -1);
        due("4 cord stays", x.of(0, 2), 1);
        due("4 aim stays", x.of(0, 3), 1);
    }

    private static void mix() {
        LargeBubble x = new LargeBubble();
        int[] was = {5, 3, 0, 20};
        int[] most = {9, 9, 9, 99};
        for (int what = 0; what < 4; what++) {
            due("5 was", x.mix(what, most[what]), was[what]);
            due("5 was most", x.mix(what, 0), most[what]);
            due("5 above", x.mix(what, most[what] + 1), -2);
            due("5 below", x.mix(what, -1), -2);
            due("5 stays", x.told(what), 0);
        }
        due("5 what 4", x.mix(4, 0), -1);
        due("5 what -1", x.mix(-1, 100), -1);
    }

    private static void row() {
        LargeBubble x = Due.with(6, 0, 9, 10);
        x.blower(3, 0, 9, 10);
        for (int part = 0; part < 4; part++) {
            due("6 was 0", x.row(0, part, part + 5), 0);
            due("6 was", x.row(0, part, 9), part + 5);
        }
        due("6 no such one", x.row(2, 0, 10), -1);
        due("6 one below 0", x.row(-1, 0, 1), -1);
        due("6 part 4", x.row(0, 4, 10), -1);
        due("6 part -1", x.row(0, -1, 1), -1);
        due("6 n 10", x.row(0, 0, 10), -2);
        due("6 n -1", x.row(0, 0, -1), -2);
        due("6 BAD ahead of STATE", x.row(1, 0, 10), -2);
        due("6 NONE ahead of STATE", x.row(1, 4, 0), -1);
        due("6 another kind", x.row(1, 0, 0), -3);
        due("6 stays", x.row(0, 0, 0), 9);
    }

    private static void feed() {
        LargeBubble x = new LargeBubble();
        due("7 -1", x.feed(-1), -2);
        due("7 128", x.feed(128), -2);
        due("7 none yet", x.count(4), 0);
        due("7 0", x.feed(0), 1);
        for (int i = 2; i <= 100; i++) due("7 many", x.feed(127), i);
        due("7 FULL", x.feed(1), -4);
        due("7 BAD ahead of FULL", x.feed(128), -2);
        due("7 100", x.count(4), 100);
    }

    private static void squareFaults() {
        fault("", 0);
        fault("x", 0);
        fault("; wind 1 b=1", 0);
        fault("w", 1);
        fault("wint", 3);
        fault("dri 1 b=1", 2);
        fault("con 1 b=1", 2);
        fault("windy", 4);
        fault("wind", 4);
        fault("wind  1", 5);
        fault("wind x", 5);
        fault("wind 1", 6);
        fault("wind 123", 7);
        fault("wind 12m", 7);
        fault("wind 1  b=1", 7);
        fault("wind 1 a=1", 7);
        fault("coin 1 B=1", 7);
        fault("dry 1 c=1", 6);
        fault("wind 1 b", 8);
        fault("wind 1 b!", 8);
        fault("wind 1 b=", 9);
        fault("wind 1 b=x", 9);
        fault("wind 1 b=123", 11);
        fault("wind 1 b=1;", 11);
        fault("wind 1 b=1; dry 1 b=1", 11);
        fault("wind 1 b=1 ", 10);
        fault("wind 1 b=1|", 11);
        fault("wind 1 b=1||", 11);
        fault("wind 1 b=1&", 11);
        fault("wind 1 b=1&&", 11);
        fault("wind 1 b=1)", 10);
        fault("wind 1 ()", 8);
        fault("wind 1 (b=1", 11);
        fault("wind 1 (b=1;", 11);
        fault("wind 1 !", 8);
        fault("wind 1 !!!!!b=1", 11);
        fault("wind 1 (((((b=1)))))", 11);
        fault("wind 1 !(!(!b=1))", 11);
        fault("wind 1 !(!(b=1))&(!!!!b=1)", 21);
        fault("dry 1 b=1;dry 1 b=1;wind 1 b=1;x", 31);
    }

    private static void fault(String text, int place) {
        LargeBubble x = new LargeBubble();
        due("8 " + text, Due.square(x, text), -10 - place);
        due("8 the text is empty behind " + text, x.count(4), 0);
        due("8 no square by " + text, x.count(1), 0);
    }

    private static void squareLimits() {
        LargeBubble x = Due.with(0, 0, 9, 20);
        due("8 four deep", Due.square(x, "wind 1 ((((b=1))))&((((b=1))))|!(!(!(!b=1)))&!!!!b=1"), -10 - 35);
        due("8 four deep each", Due.square(x, "wind 1 ((((b=1))))&((((b=1))))|!(!(b=1))&!!!!b=1"), 0);
        StringBuilder ten = new StringBuilder("dry 1 b=1");
        for (int i = 1; i < 10; i++) ten.append(";dry 1 b=0");
        due("8 ten clauses", Due.square(x, ten.toString()), 1);
        due("8 an eleventh", Due.square(x, ten + ";"), -10 - 99);
        for (int i = 2; i < 6; i++) due("8 more", Due.square(x, "coin 0" + i + " b=0"), i);
        due("8 the newest holds", x.would(0, 3), 20 * (2500 / 21 / 2) * 5);
        Due.feed(x, "coin");
        due("8 FULL", x.square(), -4);
        due("8 the text stays", x.count(4), 4);
        due("8 six", x.count(1), 6);
        LargeBubble y = Due.with(0, 0, 9, 20);
        Due.square(y, "coin 3 b=0");
        due("8 a fault", Due.square(y, "coin 4 b=0x"), -20);
        due("8 the one that held holds", y.would(0, 3), 20 * 59 * 3);
        due("8 another fault", Due.square(y, "coin 4 b=0;dry 3 !b=1;x"), -10 - 22);
        due("8 the next", Due.square(y, "wind 0 b=0"), 1);
        due("8 nothing is left of the fault's clauses", y.would(0, 3), 20 * 59);
    }

    private static void told() {
        LargeBubble x = new LargeBubble();
        x.mix(0, 9);
        x.mix(1, 8);
        x.mix(2, 7);
        x.mix(3, 6);
        x.pause(11);
        int[] want = {9, 8, 7, 6, 30 - 4 * 4 - 2 * 5 + 7, 11};
        for (int what = 0; what < 6; what++) due("9 told(" + what + ")", x.told(what), want[what]);
        due("9 what 6", x.told(6), -1);
        due("9 what -1", x.told(-1), -1);
        x.mix(2, 0);
        x.mix(0, 0);
        x.mix(1, 9);
        due("9 GOOD is 0 at least", x.told(4), 0);
        x.mix(1, 0);
        due("9 GOOD by off below", x.told(4), 30 - 20 - 6);
        x.mix(2, 9);
        due("9 GOOD with GUAR", x.told(4), 13);
    }

    private static void pause() {
        LargeBubble x = new LargeBubble();
        due("10 none", x.pause(0), 0);
        due("10 60", x.pause(60), 60);
        due("10 61", x.pause(61), -2);
        due("10 -1", x.pause(-1), -2);
        for (int i = 2; i <= 166; i++) x.pause(60);
        due("10 9960", x.told(5), 9960);
        due("10 above 9999", x.pause(40), -3);
        due("10 BAD ahead of STATE", x.pause(61), -2);
        due("10 to 9999", x.pause(39), 9999);
        due("10 none more", x.pause(1), -3);
        due("10 stays", x.pause(0), 9999);
    }
}
