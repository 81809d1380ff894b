import java.util.ArrayList;
import java.util.List;
import java.util.function.Supplier;
import java.util.function.ToLongFunction;

/**
 * Boundaries one by one, each on objects of its own. What a call leaves unchanged is looked at on twins: two objects are
 * made alike, the call is made with one of them, and then both must answer a long row of calls alike.
 */
final class Edge {
    private Edge() {
    }

    static void is(String sentence, long want, LargeBubble x, ToLongFunction<LargeBubble> call) {
        Due.due(sentence, call.applyAsLong(x), want);
    }

    /** The call answers so, and all is as it was. */
    static void keeps(String sentence, long want, Supplier<LargeBubble> made, ToLongFunction<LargeBubble> call) {
        LargeBubble with = made.get();
        Due.due(sentence, call.applyAsLong(with), want);
        alike(sentence, with, made.get());
    }

    static void keeps(String sentence, long want, ToLongFunction<LargeBubble> call) {
        keeps(sentence, want, Edge::some, call);
    }

    /** Some answer, and all is as it was. */
    static void asks(String sentence, Supplier<LargeBubble> made, ToLongFunction<LargeBubble> call) {
        LargeBubble with = made.get();
        call.applyAsLong(with);
        alike(sentence, with, made.get());
    }

    static void alike(String sentence, LargeBubble with, LargeBubble without) {
        List<Long> got = probe(with);
        List<Long> want = probe(without);
        for (int i = 0; i < want.size(); i++) Due.due(sentence + " (then, answer " + i + ")", got.get(i), want.get(i));
    }

    /** Answers by which all that an object holds can be told; the object is another one behind it. */
    private static List<Long> probe(LargeBubble x) {
        List<Long> out = new ArrayList<>();
        for (int i = 0; i <= 20; i++) out.add((long) x.trace(i));
        for (int tape = 0; tape < 6; tape++) {
            out.add((long) x.judge(tape, 0));
            for (int i : new int[] {0, 1, 2, 4, 59}) out.add(x.read(tape, i));
        }
        kept(x, out);
        out.add((long) x.feed('0'));
        out.add((long) x.square());
        for (int b = 0; b < 5; b++) out.add((long) x.would(b, 3));
        out.add((long) x.undo());
        kept(x, out);
        return out;
    }

    private static void kept(LargeBubble x, List<Long> out) {
        for (int b = 0; b < 5; b++) {
            for (int what = 0; what < 5; what++) out.add((long) x.of(b, what));
            for (int what = 1; what < 5; what += 2) out.add((long) x.would(b, what));
        }
        for (int what = 0; what < 6; what++) {
            out.add((long) x.told(what));
            out.add((long) x.count(what));
        }
        out.add((long) x.was());
        out.add((long) x.looked());
        for (int part = 0; part < 4; part++) out.add((long) x.row(0, part, 9 - part));
    }

    /** An object with some of all: an image, changes since, a text that has begun. */
    static LargeBubble some() {
        LargeBubble x = Due.with(6, 2, 9, 20);
        x.blower(1, 1, 1, 11);
        x.blower(5, 3, 2, 40);
        for (int part = 0; part < 4; part++) x.row(0, part, part + 1);
        x.mix(0, 4);
        x.mix(2, 1);
        x.mix(3, 10);
        Due.square(x, "wind 1 m<6;coin 2 b=0");
        x.go(0);
        x.see(1, 0, 12);
        x.book(1, false);
        x.image();
        x.row(0, 1, 7);
        x.set(1, 0, 2);
        x.go(1);
        x.pause(3);
        x.mix(1, 2);
        Due.square(x, "dry 2 b=1;coin 3 b=2");
        x.see(2, 1, 10);
        x.book(2, false);
        x.book(1, true);
        tapes(x);
        x.act(0, 2, 5);
        Due.feed(x, "dry 1 b=");
        return x;
    }

    private static void tapes(LargeBubble x) {
        x.tape(0, 3, 3);
        x.item(0, 0, x.of(0, 4));
        x.item(0, 1, 1L << 40);
        x.tape(1, 0, 5);
        x.item(1, 4, 7);
        x.tape(2, 4, 2);
        x.item(2, 1, 1);
        x.tape(3, 1, 0);
        x.tape(4, 3, 60);
        x.item(4, 59, 9);
    }

    /** An object of which all is full. */
    static LargeBubble full() {
        LargeBubble x = Due.with(6, 9, 9, 9);
        for (int kind = 1; kind < 5; kind++) x.blower(kind, kind, kind, 10 * kind);
        for (int i = 0; i < 6; i++) Due.square(x, "dry " + i + " b=0");
        for (int i = 0; i < 6; i++) x.see(i % 5, i, 10);
        for (int i = 0; i < 12; i++) x.book(i % 5, false);
        x.mix(3, 99);
        Due.feed(x, "coin 1 b=0|".repeat(10).substring(0, 100));
        return x;
    }

    /** An object at a MINUTE, with one who has a bubble of SIZE 20. */
    static LargeBubble at(int minute) {
        LargeBubble x = Due.with(0, 0, 9, 20);
        for (int i = 0; i < minute / 60; i++) x.pause(60);
        x.pause(minute % 60);
        return x;
    }

    /** An object with so many DIPS, with one who has a bubble of SIZE 20. */
    static LargeBubble dips(int n) {
        LargeBubble x = Due.with(0, 0, 9, 20);
        x.mix(3, n);
        return x;
    }
}
