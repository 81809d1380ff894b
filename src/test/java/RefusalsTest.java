import java.util.function.ToLongFunction;

/**
 * Each refusal of each call at each of its edges, which of several comes first, and that all is as it was behind it; and
 * that what is asked changes nothing.
 */
public final class RefusalsTest {
    private static final int NONE = LargeBubble.NONE, BAD = LargeBubble.BAD, STATE = LargeBubble.STATE;
    private static final int FULL = LargeBubble.FULL, NOTHING = -11, CAST = -12, PLACE = -13, SIZE = -14;
    private static final long NO = LargeBubble.NO;
    private static final int LEAST = Integer.MIN_VALUE, MOST = Integer.MAX_VALUE;

    public static void main(String[] args) {
        constants();
        blower();
        ofAndSet();
        mixAndTold();
        row();
        feedAndSquare();
        pauseAndGo();
        questionsOfOne();
        days();
        seenAndBook();
        fractions();
        judge();
        undoAndAct();
        takenAndCount();
        tape();
        itemAndRead();
        shift();
        shiftPlaces();
        askedChangesNothing();
        Due.end();
    }

    private static void keeps(String sentence, long want, ToLongFunction<LargeBubble> call) {
        Edge.keeps(sentence, want, call);
    }

    private static void full(String sentence, long want, ToLongFunction<LargeBubble> call) {
        Edge.keeps(sentence, want, Edge::full, call);
    }

    private static void constants() {
        Due.due("NONE (-1)", NONE, -1);
        Due.due("BAD (-2)", BAD, -2);
        Due.due("STATE (-3)", STATE, -3);
        Due.due("FULL (-4)", FULL, -4);
        Due.due("NO = Long.MIN_VALUE", NO, Long.MIN_VALUE);
    }

    private static void blower() {
        keeps("2 NONE: kind below 0", NONE, x -> x.blower(-1, 0, 1, 1));
        keeps("2 NONE: kind above 6", NONE, x -> x.blower(7, 0, 1, 1));
        keeps("2 NONE: the least kind", NONE, x -> x.blower(LEAST, 0, 1, 1));
        keeps("2 NONE: the most kind", NONE, x -> x.blower(MOST, 0, 1, 1));
        keeps("2 BAD: v below 0", BAD, x -> x.blower(0, -1, 1, 1));
        keeps("2 BAD: v above 9", BAD, x -> x.blower(0, 10, 1, 1));
        keeps("2 BAD: cord below 1", BAD, x -> x.blower(0, 0, 0, 1));
        keeps("2 BAD: cord above 9", BAD, x -> x.blower(0, 0, 10, 1));
        keeps("2 BAD: aim below 1", BAD, x -> x.blower(0, 0, 1, 0));
        keeps("2 BAD: aim above 60", BAD, x -> x.blower(0, 0, 1, 61));
        full("2 FULL: 5", FULL, x -> x.blower(0, 0, 1, 1));
        keeps("2 NONE comes ahead of BAD", NONE, x -> x.blower(7, -1, 0, 61));
        full("2 NONE comes ahead of FULL", NONE, x -> x.blower(-1, 0, 1, 1));
        full("2 BAD comes ahead of FULL", BAD, x -> x.blower(0, 10, 1, 1));
    }

    private static void ofAndSet() {
        keeps("3 NONE: a number below 0", NONE, x -> x.of(-1, 0));
        keeps("3 NONE: a number behind the last", NONE, x -> x.of(3, 0));
        full("3 NONE: number 5 of five", NONE, x -> x.of(5, 0));
        Edge.keeps("3 NONE: nobody", NONE, LargeBubble::new, x -> x.of(0, 0));
        keeps("3 NONE: what below 0", NONE, x -> x.of(0, -1));
        keeps("3 NONE: what above 4", NONE, x -> x.of(0, 5));
        keeps("4 NONE: a number below 0", NONE, x -> x.set(-1, 0, 1));
        keeps("4 NONE: a number behind the last", NONE, x -> x.set(3, 0, 1));
        keeps("4 NONE: what below 0", NONE, x -> x.set(0, -1, 1));
        keeps("4 NONE: what above 1", NONE, x -> x.set(0, 2, 1));
        keeps("4 BAD: CORD below 1", BAD, x -> x.set(0, 0, 0));
        keeps("4 BAD: CORD above 9", BAD, x -> x.set(0, 0, 10));
        keeps("4 BAD: AIM below 1", BAD, x -> x.set(0, 1, 0));
        keeps("4 BAD: AIM above 60", BAD, x -> x.set(0, 1, 61));
        keeps("4 NONE (the number) comes ahead of BAD", NONE, x -> x.set(3, 0, 0));
        keeps("4 NONE (what) comes ahead of BAD", NONE, x -> x.set(0, 2, 61));
    }

    private static void mixAndTold() {
        keeps("5 NONE: what below 0", NONE, x -> x.mix(-1, 1));
        keeps("5 NONE: what above 3", NONE, x -> x.mix(4, 1));
        keeps("5 NONE comes ahead of BAD", NONE, x -> x.mix(4, -1));
        keeps("5 BAD: SOAP below 0", BAD, x -> x.mix(0, -1));
        keeps("5 BAD: SOAP above 9", BAD, x -> x.mix(0, 10));
        keeps("5 BAD: SUGAR below 0", BAD, x -> x.mix(1, -1));
        keeps("5 BAD: SUGAR above 9", BAD, x -> x.mix(1, 10));
        keeps("5 BAD: GUAR below 0", BAD, x -> x.mix(2, -1));
        keeps("5 BAD: GUAR above 9", BAD, x -> x.mix(2, 10));
        keeps("5 BAD: DIPS below 0", BAD, x -> x.mix(3, -1));
        keeps("5 BAD: DIPS above 99", BAD, x -> x.mix(3, 100));
        keeps("9 NONE: what below 0", NONE, x -> x.told(-1));
        keeps("9 NONE: what above 5", NONE, x -> x.told(6));
    }

    private static void row() {
        keeps("6 NONE: a number below 0", NONE, x -> x.row(-1, 0, 1));
        keeps("6 NONE: a number behind the last", NONE, x -> x.row(3, 0, 1));
        keeps("6 NONE: part below 0", NONE, x -> x.row(0, -1, 1));
        keeps("6 NONE: part above 3", NONE, x -> x.row(0, 4, 1));
        keeps("6 BAD: n below 0", BAD, x -> x.row(0, 0, -1));
        keeps("6 BAD: n above 9", BAD, x -> x.row(0, 0, 10));
        for (int kind = 0; kind < 6; kind++) {
            int other = kind;
            Edge.keeps("6 STATE: KIND " + kind, STATE, () -> Due.with(other, 1, 9, 20), x -> x.row(0, 0, 1));
        }
        keeps("6 NONE (the number) comes ahead of BAD", NONE, x -> x.row(3, 0, 10));
        keeps("6 NONE (part) comes ahead of BAD", NONE, x -> x.row(0, 4, 10));
        keeps("6 NONE (part) comes ahead of STATE", NONE, x -> x.row(1, 4, 1));
        keeps("6 BAD comes ahead of STATE", BAD, x -> x.row(1, 0, 10));
    }

    private static void feedAndSquare() {
        keeps("7 BAD: a sign below 0", BAD, x -> x.feed(-1));
        keeps("7 BAD: a sign above 127", BAD, x -> x.feed(128));
        keeps("7 BAD: a sign whose lowest bits are one", BAD, x -> x.feed(256 + 'b'));
        full("7 FULL: THE TEXT has 100", FULL, x -> x.feed('1'));
        full("7 BAD comes ahead of FULL", BAD, x -> x.feed(128));
        full("8 FULL: there are 6 (THE TEXT stays)", FULL, x -> x.square());
        Edge.keeps("8 FULL, with an empty TEXT, too", FULL, () -> {
            LargeBubble x = new LargeBubble();
            for (int i = 0; i < 6; i++) Due.square(x, "dry 1 b=0");
            return x;
        }, x -> x.square());
    }

    private static void pauseAndGo() {
        keeps("10 BAD: n below 0", BAD, x -> x.pause(-1));
        keeps("10 BAD: n above 60", BAD, x -> x.pause(61));
        Edge.keeps("10 STATE: it would be 10000", STATE, () -> Edge.at(9999), x -> x.pause(1));
        Edge.keeps("10 STATE: it would be 10000 by 60", STATE, () -> Edge.at(9940), x -> x.pause(60));
        Edge.keeps("10 BAD comes ahead of STATE", BAD, () -> Edge.at(9999), x -> x.pause(61));
        keeps("11 NONE: a number below 0", NONE, x -> x.go(-1));
        keeps("11 NONE: a number behind the last", NONE, x -> x.go(3));
        Edge.keeps("11 STATE: there is no DIP", STATE, () -> Edge.dips(0), x -> x.go(0));
        Edge.keeps("11 STATE: MINUTE is 9901", STATE, () -> Edge.at(9901), x -> x.go(0));
        Edge.keeps("11 NONE comes ahead of STATE, no DIP", NONE, () -> Edge.dips(0), x -> x.go(1));
        Edge.keeps("11 NONE comes ahead of STATE, MINUTE", NONE, () -> Edge.at(9901), x -> x.go(1));
    }

    private static void questionsOfOne() {
        int[][] wrong = {{-1, 0}, {3, 0}, {LEAST, 0}, {MOST, 0}, {0, -1}, {0, LEAST}, {0, MOST}};
        for (int[] at : wrong) {
            String words = " NONE: of " + at[0] + " what " + at[1];
            keeps("12" + words, NONE, x -> x.would(at[0], at[1]));
            keeps("13" + words, NONE, x -> x.aim(at[0], at[1]));
            keeps("14" + words, NONE, x -> x.cord(at[0], at[1]));
            keeps("15" + words, NONE, x -> x.best(at[0], at[1]));
            keeps("16" + words, NONE, x -> x.when(at[0], at[1]));
            keeps("19" + words, NONE, x -> x.longest(at[0], at[1]));
        }
        keeps("12 NONE: what above 4", NONE, x -> x.would(0, 5));
        keeps("13 NONE: what above 1", NONE, x -> x.aim(0, 2));
        keeps("14 NONE: what above 1", NONE, x -> x.cord(0, 2));
        keeps("15 NONE: what above 1", NONE, x -> x.best(0, 2));
        keeps("16 NONE: what above 1", NONE, x -> x.when(0, 2));
        keeps("19 NONE: what above 1", NONE, x -> x.longest(0, 2));
        keeps("22 -1000001: a number below 0", -1000001, x -> x.calm(-1));
        keeps("22 -1000001: a number behind the last", -1000001, x -> x.calm(3));
    }

    private static void days() {
        keeps("17 NONE: what below 0", NONE, x -> x.day(1, -1));
        keeps("17 NONE: one who is not there", NONE, x -> x.day(1, 3));
        for (int what = 5; what < 10; what++) {
            int which = what;
            full("17 NONE: what " + what, NONE, x -> x.day(1, which));
        }
        keeps("17 NONE: what above 11", NONE, x -> x.day(1, 12));
        keeps("17 BAD: n below 0", BAD, x -> x.day(-1, 0));
        keeps("17 BAD: n above 20", BAD, x -> x.day(21, 0));
        keeps("17 BAD: n, how many TORN", BAD, x -> x.day(21, 10));
        keeps("17 BAD: n, MINUTE", BAD, x -> x.day(-1, 11));
        keeps("17 NONE comes ahead of BAD", NONE, x -> x.day(21, 12));
        keeps("18 BAD: n below 0", BAD, x -> x.most(-1));
        keeps("18 BAD: n above 20", BAD, x -> x.most(21));
        Edge.keeps("18 -5: nobody is there", -5, LargeBubble::new, x -> x.most(1));
    }

    private static void seenAndBook() {
        keeps("20 NONE: a number below -1", NONE, x -> x.see(-2, 0, 0));
        keeps("20 NONE: a number behind the last", NONE, x -> x.see(3, 0, 0));
        keeps("20 BAD: n below 0", BAD, x -> x.see(0, -1, 0));
        keeps("20 BAD: n above 30", BAD, x -> x.see(0, 31, 0));
        keeps("20 BAD: size below 0", BAD, x -> x.see(0, 0, -1));
        keeps("20 BAD: size above 99", BAD, x -> x.see(0, 0, 100));
        full("20 FULL: 6", FULL, x -> x.see(0, 0, 0));
        keeps("20 NONE comes ahead of BAD", NONE, x -> x.see(3, 31, 100));
        full("20 NONE comes ahead of FULL", NONE, x -> x.see(5, 0, 0));
        full("20 BAD (n) comes ahead of FULL", BAD, x -> x.see(0, 31, 0));
        full("20 BAD (size) comes ahead of FULL", BAD, x -> x.see(0, 0, 100));
        keeps("25 NONE: a number below -1", NONE, x -> x.book(-2, true));
        keeps("25 NONE: a number behind the last", NONE, x -> x.book(3, true));
        full("25 FULL: 12", FULL, x -> x.book(0, true));
        full("25 NONE comes ahead of FULL", NONE, x -> x.book(5, true));
    }

    private static void fractions() {
        int[][] wrong = {{-1, 0}, {3, 1}, {0, -1}, {0, 2}};
        for (int[] at : wrong) {
            String words = " NO: of " + at[0] + " part " + at[1];
            keeps("23" + words, NO, x -> x.odds(at[0], at[1]));
            keeps("24" + words, NO, x -> x.mean(at[0], at[1]));
        }
    }

    private static void judge() {
        keeps("27 NONE: a TAPE below 0", NONE, x -> x.judge(-1, 0));
        keeps("27 NONE: a TAPE above 5", NONE, x -> x.judge(6, 0));
        keeps("27 CAST: bytes", CAST, x -> x.judge(1, 0));
        keeps("27 CAST: booleans", CAST, x -> x.judge(2, 0));
        keeps("27 CAST: a row of no shorts", CAST, x -> x.judge(3, 0));
        Edge.keeps("27 CAST: ints", CAST, () -> {
            LargeBubble x = Edge.some();
            x.tape(3, 2, 3);
            return x;
        }, x -> x.judge(3, 0));
        keeps("27 CAST comes ahead of a place below 0", CAST, x -> x.judge(1, -1));
        keeps("27 CAST comes ahead of a place behind the end", CAST, x -> x.judge(1, 60));
    }

    private static void undoAndAct() {
        full("29 STATE: there is no image", STATE, x -> x.undo());
        actOf("a number below 0", -1, 0);
        actOf("a number behind the last", 3, 0);
        actOf("an act below 0", 0, -1);
        actOf("an act above 2", 0, 3);
        keeps("31 NONE: below 0", NONE, x -> x.trace(-1));
        keeps("31 NONE: behind the last", NONE, x -> x.trace(x.count(5)));
        keeps("31 NONE: 20", NONE, x -> x.trace(20));
        Edge.keeps("31 NONE: no act yet", NONE, Edge::full, x -> x.trace(0));
    }

    /** But for THE TRACE, which is another object's without an act, all is as it was. */
    private static void actOf(String words, int blower, int act) {
        Edge.keeps("30 0: " + words, 0, Edge::full, x -> x.act(blower < 0 ? blower : blower + 2, act, 7));
        LargeBubble x = Edge.some();
        Due.due("30 0: " + words, x.act(blower, act, 7), 0);
        Due.due("30 no TRACE then: " + words, x.trace(0), NONE);
        Due.due("30 no bodies then: " + words, x.count(5), 0);
    }

    private static void takenAndCount() {
        keeps("32 BAD: k below 0", BAD, x -> x.taken(0, -1));
        keeps("32 BAD: k above 6", BAD, x -> x.taken(0, 7));
        keeps("32 NOTHING: a number below 0", NOTHING, x -> x.taken(-1, 0));
        keeps("32 NOTHING: a number behind the last", NOTHING, x -> x.taken(3, 0));
        keeps("32 CAST: beside the KIND", CAST, x -> x.taken(1, 2));
        keeps("32 CAST: below the KIND", CAST, x -> x.taken(1, 4));
        keeps("32 BAD comes ahead of NOTHING", BAD, x -> x.taken(3, 7));
        keeps("33 BAD: what below 0", BAD, x -> x.count(-1));
        keeps("33 BAD: what above 5", BAD, x -> x.count(6));
    }

    private static void tape() {
        keeps("34 NONE: a TAPE below 0", NONE, x -> x.tape(-1, 0, 0));
        keeps("34 NONE: a TAPE above 5", NONE, x -> x.tape(6, 0, 0));
        keeps("34 BAD: a sort below -1", BAD, x -> x.tape(0, -2, 1));
        keeps("34 BAD: a sort above 4", BAD, x -> x.tape(0, 5, 1));
        keeps("34 BAD: n above 60", BAD, x -> x.tape(0, 0, 61));
        keeps("34 SIZE: n below 0", SIZE, x -> x.tape(0, 0, -1));
        keeps("34 SIZE: the least n", SIZE, x -> x.tape(0, 4, LEAST));
        keeps("34 NONE comes ahead of BAD", NONE, x -> x.tape(6, 5, 61));
        keeps("34 NONE comes ahead of SIZE", NONE, x -> x.tape(-1, 0, -1));
        keeps("34 BAD (sort) comes ahead of SIZE", BAD, x -> x.tape(0, 5, -1));
    }

    private static void itemAndRead() {
        keeps("35 NONE: a TAPE below 0", NONE, x -> x.item(-1, 0, 1));
        keeps("35 NONE: a TAPE above 5", NONE, x -> x.item(6, 0, 1));
        keeps("35 NOTHING", NOTHING, x -> x.item(5, 0, 1));
        keeps("35 NOTHING comes ahead of PLACE", NOTHING, x -> x.item(5, -1, 1));
        keeps("35 PLACE: below 0", PLACE, x -> x.item(0, -1, 1));
        keeps("35 PLACE: at the end", PLACE, x -> x.item(0, 3, 1));
        keeps("35 PLACE: at the end of 60", PLACE, x -> x.item(4, 60, 1));
        keeps("35 PLACE: of a row of none", PLACE, x -> x.item(3, 0, 1));
        keeps("36 NO: no such TAPE, below 0", NO, x -> x.read(-1, 0));
        keeps("36 NO: no such TAPE, above 5", NO, x -> x.read(6, 0));
        keeps("36 NO: nothing there", NO, x -> x.read(5, 0));
        keeps("36 NO: no such place, below 0", NO, x -> x.read(0, -1));
        keeps("36 NO: no such place, the end", NO, x -> x.read(0, 3));
        keeps("36 NO: no such place, the end of 60", NO, x -> x.read(4, 60));
    }

    private static void shift() {
        keeps("37 NONE: a TAPE below 0", NONE, x -> x.shift(-1, 0, 0, 0, 1));
        keeps("37 NONE: a TAPE above 5", NONE, x -> x.shift(6, 0, 0, 0, 1));
        keeps("37 NONE: another below 0", NONE, x -> x.shift(0, 0, -1, 0, 1));
        keeps("37 NONE: another above 5", NONE, x -> x.shift(0, 0, 6, 0, 1));
        keeps("37 NOTHING: the TAPE", NOTHING, x -> x.shift(5, 0, 0, 0, 0));
        keeps("37 NOTHING: the other", NOTHING, x -> x.shift(0, 0, 5, 0, 0));
        keeps("37 NOTHING: both", NOTHING, x -> x.shift(5, 0, 5, 0, 0));
        keeps("37 CAST: of unlike sorts", CAST, x -> x.shift(0, 0, 1, 0, 1));
        keeps("37 CAST, also of none", CAST, x -> x.shift(0, 0, 3, 0, 0));
        keeps("37 NONE (the other) comes ahead of NOTHING", NONE, x -> x.shift(5, 0, 6, 0, 1));
        keeps("37 NONE comes ahead of PLACE", NONE, x -> x.shift(0, -1, 6, -1, -1));
        keeps("37 NOTHING comes ahead of PLACE", NOTHING, x -> x.shift(5, -1, 0, 0, 1));
        keeps("37 CAST comes ahead of PLACE", CAST, x -> x.shift(0, -1, 1, 0, 1));
    }

    private static void shiftPlaces() {
        keeps("37 PLACE: n is below 0", PLACE, x -> x.shift(0, 1, 4, 1, -1));
        keeps("37 PLACE: i is below 0", PLACE, x -> x.shift(0, -1, 4, 0, 1));
        keeps("37 PLACE: j is below 0", PLACE, x -> x.shift(0, 0, 4, -1, 1));
        keeps("37 PLACE: i and n are beyond the end", PLACE, x -> x.shift(0, 2, 4, 0, 2));
        keeps("37 PLACE: j and n are beyond the other's end", PLACE, x -> x.shift(4, 0, 0, 2, 2));
        keeps("37 PLACE: i is beyond the end, n 0", PLACE, x -> x.shift(0, 4, 4, 0, 0));
        keeps("37 PLACE: j is beyond the other's end, n 0", PLACE, x -> x.shift(4, 0, 0, 4, 0));
        keeps("37 PLACE: in one and the same", PLACE, x -> x.shift(0, 0, 0, 1, 3));
        keeps("37 PLACE: the most n", PLACE, x -> x.shift(0, 1, 4, 1, MOST));
        keeps("37 PLACE: the most i", PLACE, x -> x.shift(0, MOST, 4, 0, 1));
        keeps("37 PLACE: the most j", PLACE, x -> x.shift(0, 0, 4, MOST, 1));
        keeps("37 PLACE: the least n", PLACE, x -> x.shift(0, MOST, 4, 0, LEAST));
    }

    private static void asked(String sentence, ToLongFunction<LargeBubble> call) {
        Edge.asks(sentence + " changes nothing", Edge::some, call);
        Edge.asks(sentence + " changes nothing of what is full", Edge::full, call);
    }

    private static void askedChangesNothing() {
        asked("3 of", x -> x.of(0, 3));
        asked("9 told", x -> x.told(4));
        asked("12 WOULD", x -> x.would(0, 3));
        asked("13 AIM", x -> x.aim(0, 0));
        asked("14 CORD", x -> x.cord(0, 0));
        asked("15 MIX", x -> x.best(0, 0));
        asked("16 PAUSE", x -> x.when(0, 0));
        asked("17 DAY", x -> x.day(20, 0));
        asked("18 MOST", x -> x.most(20));
        asked("19 LONGEST", x -> x.longest(0, 1));
        asked("21 WAS", x -> x.was());
        asked("22 CALM", x -> x.calm(0));
        asked("23 ODDS", x -> x.odds(0, 0));
        asked("24 MEAN", x -> x.mean(0, 0));
        asked("26 LOOKED", x -> x.looked());
        asked("27 judge", x -> x.judge(0, 0));
        asked("31 trace", x -> x.trace(0));
        asked("32 taken", x -> x.taken(0, 3));
        asked("33 count", x -> x.count(5));
        asked("36 read", x -> x.read(0, 0));
    }
}
