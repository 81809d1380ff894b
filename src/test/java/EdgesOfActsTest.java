import java.util.function.Consumer;

/** Boundaries of judging, the image, acts and tapes (promises 27 to 37). */
public final class EdgesOfActsTest {
    private static final int BYTES = 0, SHORTS = 1, INTS = 2, LONGS = 3, BOOLEANS = 4;
    private static final int LEAST = Integer.MIN_VALUE, MOST = Integer.MAX_VALUE;

    public static void main(String[] args) {
        judgeEnds();
        judgePlaces();
        judgeCoins();
        image();
        undoGivesBack();
        undoRows();
        undoLeaves();
        undoNumbers();
        actsWrap();
        numberAndV();
        trace();
        taken();
        count();
        tape();
        tapeAnew();
        itemBits();
        itemPlaces();
        shiftEnds();
        shiftOverlaps();
        shiftSorts();
        calls512();
        Due.end();
    }

    private static void due(String sentence, long got, long want) {
        Due.due(sentence, got, want);
    }

    private static LargeBubble blowers(int n) {
        LargeBubble x = new LargeBubble();
        for (int i = 0; i < n; i++) x.blower(0, 0, 3, 12);
        return x;
    }

    /** n without COINS, and TAPE 0 with so many longs, all 0. */
    private static LargeBubble poor(int n, int items) {
        LargeBubble x = blowers(n);
        x.tape(0, LONGS, items);
        return x;
    }

    private static void judgeEnds() {
        Edge.is("27 -5: there is none to look at", -5, poor(0, 3), x -> x.judge(0, 0));
        Edge.is("27 -5: none is otherwise", -5, poor(3, 3), x -> x.judge(0, 0));
        Edge.is("27 -5: none of five", -5, poor(5, 60), x -> x.judge(0, 55));
        Edge.is("27 100 and 4, as the row ends ahead of the fifth", 104, poor(5, 60), x -> x.judge(0, 56));
        Edge.is("27 100 and 2, as the row ends ahead of the third", 102, poor(3, 2), x -> x.judge(0, 0));
        Edge.is("27 100 and 1", 101, poor(3, 3), x -> x.judge(0, 2));
        Edge.is("27 100: the row ends at once", 100, poor(3, 3), x -> x.judge(0, 3));
        Edge.is("27 100: the row has none", 100, poor(3, 0), x -> x.judge(0, 0));
        Edge.is("27 -5: the row has none, and nobody is there", -5, poor(0, 0), x -> x.judge(0, 0));
    }

    private static void judgePlaces() {
        Edge.is("27 100: the place is below 0", 100, poor(3, 3), x -> x.judge(0, -1));
        Edge.is("27 100: the place is the least", 100, poor(3, 3), x -> x.judge(0, LEAST));
        Edge.is("27 100: the place is the most", 100, poor(3, 3), x -> x.judge(0, MOST));
        Edge.is("27 100: the TAPE holds nothing", 100, blowers(3), x -> x.judge(0, 0));
        Edge.is("27 100: the TAPE holds nothing, place below 0", 100, blowers(3), x -> x.judge(5, -1));
        LargeBubble again = poor(3, 3);
        again.tape(0, -1, 0);
        due("27 100: the TAPE holds nothing any more", again.judge(0, 0), 100);
    }

    private static void judgeCoins() {
        LargeBubble x = poor(3, 4);
        x.go(1);
        x.item(0, 2, 360);
        due("27 from a place on, by numbers", x.judge(0, 1), -5);
        due("27 the first that is otherwise", x.judge(0, 0), 1);
        x.item(0, 3, 1);
        due("27 the first that is otherwise: the last", x.judge(0, 1), 2);
        x.item(0, 1, -1);
        due("27 the first of two that are otherwise", x.judge(0, 1), 0);
        x.item(0, 1, 1L << 32);
        due("27 a long is otherwise by its highest bits alone", x.judge(0, 1), 0);
        due("27 otherwise, ahead of the row's end", x.judge(0, 3), 0);
        x.item(0, 3, 0);
        due("27 the row's end, as none is otherwise ahead of it", x.judge(0, 3), 101);
    }

    private static void image() {
        Edge.is("28 how many BLOWERS: nobody", 0, blowers(0), x -> x.image());
        Edge.is("28 how many BLOWERS: five", 5, blowers(5), x -> x.image());
        Edge.asks("28 an image changes nothing but what undo gives back", () -> {
            LargeBubble x = Edge.some();
            x.undo();
            return x;
        }, x -> x.image());
        LargeBubble x = blowers(1);
        x.image();
        x.mix(0, 1);
        x.image();
        x.mix(0, 2);
        x.undo();
        due("28 the newest image", x.told(0), 1);
    }

    /** What was changed behind an image is as it was behind undo. */
    private static void undone(String what, Consumer<LargeBubble> change) {
        LargeBubble with = Edge.some();
        with.image();
        change.accept(with);
        due("29 how many BLOWERS: " + what, with.undo(), 3);
        LargeBubble without = Edge.some();
        without.image();
        Edge.alike("29 All is as THE IMAGE: " + what, with, without);
    }

    private static void undoGivesBack() {
        undone("nothing", x -> { });
        undone("one more", x -> x.blower(0, 0, 1, 1));
        undone("two more", x -> {
            x.blower(0, 0, 1, 1);
            x.blower(6, 0, 1, 1);
        });
        undone("CORD of the first", x -> x.set(0, 0, 1));
        undone("AIM of the last", x -> x.set(2, 1, 1));
        for (int part = 0; part < 4; part++) {
            int which = part;
            undone("ROW", x -> x.row(0, which, 9));
        }
        for (int what = 0; what < 4; what++) {
            int which = what;
            undone("THE BUCKET", x -> x.mix(which, 1));
        }
        undone("MINUTE", x -> x.pause(7));
        undone("COINS, DIPS, MINUTE", x -> x.go(0));
        undone("COINS of the last", x -> x.go(2));
        undone("SEEN, one more", x -> x.see(0, 0, 99));
        undone("SEEN, none", x -> x.see(-1, 0, 0));
        undone("SEEN, another", x -> {
            x.see(-1, 0, 0);
            x.see(0, 0, 1);
            x.see(0, 0, 2);
        });
        undone("BOOK, one more", x -> x.book(0, true));
        undone("BOOK, empty", x -> x.book(-1, true));
        undone("BOOK, another", x -> {
            x.book(-1, true);
            for (int i = 0; i < 3; i++) x.book(0, true);
        });
        undone("all by undo", x -> {
            x.mix(0, 9);
            x.undo();
            x.mix(1, 9);
        });
    }

    private static void undoRows() {
        LargeBubble x = blowers(1);
        x.blower(0, 0, 1, 60);
        x.blower(3, 0, 1, 8);
        Due.square(x, "wind 30 m=5");
        x.see(0, 1, 0);
        x.see(2, 6, 8);
        x.book(1, true);
        x.book(2, false);
        long was = x.was();
        // By SOAP 0, 1, 9 the first is TORN, by SOAP 0 the third.
        due("21 before", was, 1 << 1 | 1 << 9);
        due("26 before", x.looked(), -5);
        x.image();
        x.see(-1, 0, 0);
        x.see(2, 0, 8);
        x.see(0, 0, 0);
        x.book(-1, true);
        x.book(0, false);
        x.book(0, true);
        x.undo();
        due("29 SEEN: how many", x.count(2), 2);
        due("29 SEEN: of whom, when, which SIZE", x.was(), was);
        due("29 the BOOK: how many", x.count(3), 2);
        due("29 the BOOK: of whom, whether TORN", x.looked(), -5);
    }

    private static void undoLeaves() {
        LargeBubble x = blowers(1);
        x.image();
        Due.square(x, "coin 2 b=0");
        Due.feed(x, "wind");
        x.tape(2, INTS, 2);
        x.item(2, 1, 77);
        x.act(0, 2, 5);
        x.undo();
        due("29 which SQUARE holds: none", x.would(0, 3), 360);
        due("29 the SQUARES are no part of THE IMAGE", x.count(1), 1);
        due("29 THE TEXT is no part of THE IMAGE", x.count(4), 4);
        due("29 TAPES are no part of THE IMAGE", x.read(2, 1), 77);
        due("29 THE TRACE is no part of THE IMAGE", x.trace(2), 10);
        due("29 bodies that ran are no part of THE IMAGE", x.count(5), 3);
        LargeBubble two = blowers(1);
        Due.square(two, "coin 2 b=0");
        two.image();
        Due.square(two, "coin 3 b=0");
        two.undo();
        due("29 which SQUARE holds: the first of two", two.would(0, 3), 720);
        due("29 the next SQUARE has the number behind all", Due.square(two, "coin 4 b=0"), 2);
        due("29 and holds", two.would(0, 3), 4 * 360);
    }

    private static void undoNumbers() {
        LargeBubble x = new LargeBubble();
        x.image();
        x.blower(0, 1, 2, 3);
        due("29 nobody", x.undo(), 0);
        due("29 nobody is there then", x.of(0, 0), -1);
        due("29 the number is free again", x.blower(6, 9, 8, 7), 0);
        due("29 it is another one", x.of(0, 0), 6);
        due("29 whose ROW is 0", x.row(0, 0, 1), 0);
        due("29 once more", x.undo(), 0);
        LargeBubble five = blowers(5);
        five.image();
        five.set(4, 0, 9);
        due("29 how many BLOWERS: five", five.undo(), 5);
        due("29 the last of five", five.of(4, 2), 3);
        LargeBubble full = blowers(4);
        full.image();
        full.blower(0, 0, 1, 1);
        due("29 five", full.blower(0, 0, 1, 1), -4);
        due("29 four again", full.undo(), 4);
        due("29 FULL no more", full.blower(1, 0, 1, 1), 4);
        Edge.is("29 no GO of one who is not there any more", -1, nobodyAgain(), y -> y.go(0));
        Edge.is("29 no ACT of one who is not there any more", 0, nobodyAgain(), y -> y.act(0, 0, 5));
        Edge.is("29 no TOLD of one who is not there any more", -1, nobodyAgain(), y -> y.row(0, 0, 1));
        Edge.is("29 NOTHING of one who is not there any more", -11, nobodyAgain(), y -> y.taken(0, 0));
        Edge.is("29 no DAY of one who is not there any more", -1, nobodyAgain(), y -> y.day(1, 0));
        Edge.is("29 MOST of nobody", -5, nobodyAgain(), y -> y.most(5));
    }

    private static LargeBubble nobodyAgain() {
        LargeBubble x = new LargeBubble();
        x.image();
        x.blower(6, 1, 2, 3);
        x.undo();
        return x;
    }

    /** The number i is 1. */
    private static long act(int kind, int v, int act, int arg) {
        LargeBubble x = blowers(1);
        x.blower(kind, v, 1, 1);
        return x.act(1, act, arg);
    }

    private static void actsWrap() {
        due("30 wrapping: 10, x + i", act(0, 0, 0, MOST), LEAST);
        due("30 wrapping: 11, less v", act(0, 9, 1, LEAST), LEAST + 1 - 9);
        due("30 wrapping: 12, times 2", act(0, 0, 2, 1 << 30), (1 << 31) + 2);
        due("30 wrapping: 12, times 2, below", act(0, 0, 2, LEAST), 2);
        due("30 wrapping: 20", act(1, 9, 1, LEAST), LEAST + 1 - 9 ^ 6);
        due("30 wrapping: 30, x * 3", act(2, 0, 0, MOST), MOST * 3 + 1);
        due("30 wrapping: 30, x * 3, below", act(2, 0, 0, LEAST), LEAST + 1);
        due("30 wrapping: 40, together", act(3, 0, 2, (1 << 30) - 2), MOST - 1 + 2);
        due("30 wrapping: 50, less", act(4, 0, 0, MOST), LEAST);
        due("30 wrapping: 51, x + 1", act(4, 0, 1, MOST), -(LEAST + 1) ^ 6);
        due("30 wrapping: 60, x - i", act(5, 0, 2, LEAST), (MOST * 3 + 1) * 2);
        due("30 wrapping: 70, together", act(6, 0, 1, MOST - 3), MOST - 2 + 3);
        due("30 wrapping: 71", act(6, 9, 0, MOST), LEAST ^ 9);
    }

    private static void numberAndV() {
        LargeBubble x = new LargeBubble();
        for (int i = 0; i < 5; i++) x.blower(0, 9 - i, 1, 1);
        for (int i = 0; i < 5; i++) {
            due("30 i the number", x.act(i, 0, 0), i);
            due("30 v", x.act(i, 1, 0), i - (9 - i));
        }
        due("30 v 0", act(6, 0, 0, 5), 6);
        due("30 v 9", act(6, 9, 0, 5), 6 ^ 9);
    }

    private static LargeBubble acted(int kind, int act) {
        LargeBubble x = Due.with(kind, 0, 1, 1);
        x.act(0, act, 0);
        return x;
    }

    private static void trace() {
        Edge.is("31 the first body", 10, acted(0, 0), x -> x.trace(0));
        Edge.is("31 NONE behind the only one", -1, acted(0, 0), x -> x.trace(1));
        Edge.is("31 the last of twelve bodies", 10, acted(6, 2), x -> x.trace(11));
        Edge.is("31 NONE behind twelve", -1, acted(6, 2), x -> x.trace(12));
        Edge.is("31 all twelve ran", 12, acted(6, 2), x -> x.count(5));
        LargeBubble x = acted(6, 2);
        x.act(0, 0, 0);
        due("31 of the latest act() alone", x.trace(2), -1);
        due("31 of the latest act() alone: how many", x.count(5), 2);
        x.act(0, 3, 0);
        x.act(0, 0, 0);
        due("31 behind a refused one", x.trace(0), 71);
    }

    private static void taken() {
        Edge.is("32 k 0: a BLOWER itself", 0, acted(0, 0), x -> x.taken(0, 0));
        Edge.is("32 k 6: a TOLD itself", 6, acted(6, 0), x -> x.taken(0, 6));
        Edge.is("32 one under that: the KIND it is of (not k)", 6, acted(6, 0), x -> x.taken(0, 3));
        Edge.is("32 one under one under that", 6, acted(6, 0), x -> x.taken(0, 0));
        Edge.is("32 MAD for BOLD", 4, acted(4, 0), x -> x.taken(0, 1));
        Edge.is("32 WISE for CAREFUL", 5, acted(5, 0), x -> x.taken(0, 2));
        Edge.is("32 CAST: BLOWER for BOLD", -12, acted(0, 0), x -> x.taken(0, 1));
        Edge.is("32 CAST: BOLD for MAD", -12, acted(1, 0), x -> x.taken(0, 4));
        Edge.is("32 CAST: CAREFUL for WISE", -12, acted(2, 0), x -> x.taken(0, 5));
        Edge.is("32 CAST: SLOW for TOLD", -12, acted(3, 0), x -> x.taken(0, 6));
        Edge.is("32 CAST: MAD for CAREFUL", -12, acted(4, 0), x -> x.taken(0, 2));
        Edge.is("32 CAST: TOLD for WISE", -12, acted(6, 0), x -> x.taken(0, 5));
    }

    private static void count() {
        int[] full = {5, 6, 6, 12, 100, 0};
        for (int what = 0; what < 6; what++) {
            int which = what;
            Edge.is("33 none: what " + what, 0, new LargeBubble(), x -> x.count(which));
            Edge.is("33 full: what " + what, full[what], Edge.full(), x -> x.count(which));
        }
    }

    private static LargeBubble row(int sort, int n) {
        LargeBubble x = new LargeBubble();
        due("34 becomes a row", x.tape(0, sort, n), 1);
        return x;
    }

    private static void tape() {
        for (int sort = 0; sort < 5; sort++) {
            Edge.is("34 n 0: there is no place", -13, row(sort, 0), x -> x.item(0, 0, 1));
            Edge.is("34 n 1: the first is 0", 0, row(sort, 1), x -> x.read(0, 0));
            Edge.is("34 n 1: there is no second", LargeBubble.NO, row(sort, 1), x -> x.read(0, 1));
            Edge.is("34 n 60: the last is 0", 0, row(sort, 60), x -> x.read(0, 59));
            Edge.is("34 n 60: there is no more", LargeBubble.NO, row(sort, 60), x -> x.read(0, 60));
        }
        Edge.is("34 sort -1: n does not matter, 61", 1, row(0, 3), x -> x.tape(0, -1, 61));
        Edge.is("34 sort -1: n does not matter, below 0", 1, row(0, 3), x -> x.tape(0, -1, -1));
        Edge.is("34 sort -1: n does not matter, the least", 1, row(0, 3), x -> x.tape(0, -1, LEAST));
        for (int tape = 0; tape < 6; tape++) {
            int which = tape;
            Edge.is("34 TAPE 0 .. 5", 1, new LargeBubble(), x -> x.tape(which, 1, 3));
        }
        for (int n : new int[] {-1, 3, 61}) {
            LargeBubble x = row(LONGS, 3);
            x.tape(0, -1, n);
            due("34 holds nothing, n " + n, x.item(0, 0, 1), -11);
            due("34 holds nothing, n " + n + ": no item", x.read(0, 0), LargeBubble.NO);
        }
    }

    private static void tapeAnew() {
        LargeBubble x = row(LONGS, 60);
        for (int i = 0; i < 60; i++) x.item(0, i, -1);
        x.tape(0, LONGS, 60);
        for (int i = 0; i < 60; i++) due("34 all 0: " + i, x.read(0, i), 0);
        LargeBubble y = row(LONGS, 60);
        y.item(0, 59, 7);
        y.tape(0, LONGS, 5);
        due("34 a shorter row has an earlier end", y.read(0, 5), LargeBubble.NO);
        y.tape(0, LONGS, 60);
        due("34 all 0, also behind a shorter row", y.read(0, 59), 0);
        LargeBubble z = row(LONGS, 3);
        z.item(0, 2, 7);
        z.tape(0, -1, 0);
        z.tape(0, LONGS, 3);
        due("34 all 0, also behind nothing", z.read(0, 2), 0);
    }

    private static long stored(int sort, long v) {
        LargeBubble x = row(sort, 1);
        due("35 item", x.item(0, 0, v), 1);
        return x.read(0, 0);
    }

    private static void itemBits() {
        due("35 bytes: 127", stored(BYTES, 127), 127);
        due("35 bytes: 128 wraps", stored(BYTES, 128), -128);
        due("35 bytes: -128", stored(BYTES, -128), -128);
        due("35 bytes: -129 wraps", stored(BYTES, -129), 127);
        due("35 bytes: 256 has no lowest bits", stored(BYTES, 256), 0);
        due("35 shorts: 32767", stored(SHORTS, 32767), 32767);
        due("35 shorts: 32768 wraps", stored(SHORTS, 32768), -32768);
        due("35 shorts: -32769 wraps", stored(SHORTS, -32769), 32767);
        due("35 shorts: 65536 has no lowest bits", stored(SHORTS, 65536), 0);
        due("35 ints: the most", stored(INTS, MOST), MOST);
        due("35 ints: one more wraps", stored(INTS, MOST + 1L), LEAST);
        due("35 ints: one less than the least wraps", stored(INTS, LEAST - 1L), MOST);
        due("35 ints: 2 to the 32 has no lowest bits", stored(INTS, 1L << 32), 0);
        due("35 longs: the most", stored(LONGS, Long.MAX_VALUE), Long.MAX_VALUE);
        due("35 longs: the least", stored(LONGS, Long.MIN_VALUE), Long.MIN_VALUE);
        due("35 booleans: 0", stored(BOOLEANS, 0), 0);
        due("35 booleans: 1", stored(BOOLEANS, 1), 1);
        due("35 booleans: 2 is not 0", stored(BOOLEANS, 2), 1);
        due("35 booleans: -1 is not 0", stored(BOOLEANS, -1), 1);
        due("35 booleans: the highest bit is not 0", stored(BOOLEANS, Long.MIN_VALUE), 1);
    }

    private static void itemPlaces() {
        LargeBubble x = row(LONGS, 60);
        due("35 the first place", x.item(0, 0, 5), 1);
        due("35 the last place", x.item(0, 59, 6), 1);
        due("36 the first place", x.read(0, 0), 5);
        due("36 the last place", x.read(0, 59), 6);
        due("36 its neighbour", x.read(0, 58), 0);
        LargeBubble y = new LargeBubble();
        for (int tape = 0; tape < 6; tape++) y.tape(tape, INTS, 1);
        for (int tape = 0; tape < 6; tape++) y.item(tape, 0, 10 + tape);
        for (int tape = 0; tape < 6; tape++) due("36 of one TAPE alone", y.read(tape, 0), 10 + tape);
    }

    /** TAPE 0 of 5 bytes 1 .. 5, TAPE 1 of 3 bytes 0. */
    private static LargeBubble two() {
        LargeBubble x = row(BYTES, 5);
        x.tape(1, BYTES, 3);
        for (int i = 0; i < 5; i++) x.item(0, i, i + 1);
        return x;
    }

    private static void items(String sentence, LargeBubble x, int tape, int... want) {
        for (int i = 0; i < want.length; i++) due(sentence + ", item " + i, x.read(tape, i), want[i]);
        due(sentence + ", its end", x.read(tape, want.length), LargeBubble.NO);
    }

    private static void shifted(String sentence, int i, int j, int n, int... want) {
        LargeBubble x = two();
        due(sentence, x.shift(0, i, 1, j, n), n);
        items(sentence, x, 1, want);
        items(sentence + ", from", x, 0, 1, 2, 3, 4, 5);
    }

    private static void shiftEnds() {
        shifted("37 up to both ends", 2, 0, 3, 3, 4, 5);
        shifted("37 the last to the last", 4, 2, 1, 0, 0, 5);
        shifted("37 the first to the first", 0, 0, 1, 1, 0, 0);
        shifted("37 none, from 0", 0, 0, 0, 0, 0, 0);
        shifted("37 none, at both ends", 5, 3, 0, 0, 0, 0);
        LargeBubble none = two();
        none.tape(1, BYTES, 0);
        due("37 none to a row of none", none.shift(0, 5, 1, 0, 0), 0);
        due("37 none from a row of none", none.shift(1, 0, 0, 5, 0), 0);
        due("37 one from a row of none", none.shift(1, 0, 0, 0, 1), -13);
        LargeBubble sixty = row(LONGS, 60);
        sixty.tape(5, LONGS, 60);
        for (int i = 0; i < 60; i++) sixty.item(0, i, i);
        due("37 all of 60", sixty.shift(0, 0, 5, 0, 60), 60);
        due("37 all of 60, the first", sixty.read(5, 0), 0);
        due("37 all of 60, the last", sixty.read(5, 59), 59);
    }

    private static void same(String sentence, int i, int j, int n, int... want) {
        LargeBubble x = two();
        due(sentence, x.shift(0, i, 0, j, n), n);
        items(sentence, x, 0, want);
    }

    private static void shiftOverlaps() {
        same("37 the same, as they all were before: up by 1", 0, 1, 4, 1, 1, 2, 3, 4);
        same("37 the same, as they all were before: down by 1", 1, 0, 4, 2, 3, 4, 5, 5);
        same("37 the same, as they all were before: up by 2", 0, 2, 3, 1, 2, 1, 2, 3);
        same("37 the same, as they all were before: down by 2", 2, 0, 3, 3, 4, 5, 4, 5);
        same("37 the same, where they are", 0, 0, 5, 1, 2, 3, 4, 5);
        same("37 the same, none", 5, 5, 0, 1, 2, 3, 4, 5);
    }

    private static void shiftSorts() {
        for (int sort = 0; sort < 5; sort++) {
            for (int other = 0; other < 5; other++) {
                LargeBubble x = row(sort, 2);
                x.tape(1, other, 2);
                x.item(0, 1, 1);
                due("37 sorts " + sort + " and " + other, x.shift(0, 1, 1, 0, 1), sort == other ? 1 : -12);
                due("37 then, of sorts " + sort + " and " + other, x.read(1, 0), sort == other ? 1 : 0);
            }
        }
    }

    private static void calls512() {
        LargeBubble x = blowers(1);
        for (int i = 2; i <= 511; i++) x.act(0, 2, i);
        due("at most 512 calls: the last", x.act(0, 0, 511), 511);
        LargeBubble y = new LargeBubble();
        for (int i = 1; i <= 511; i++) y.image();
        due("at most 512 calls: the last image", y.image(), 0);
    }
}
