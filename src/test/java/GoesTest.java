/** Promises 11 to 16: goes, and what a go would be by another aim, cord, bucket or minute. */
public final class GoesTest {
    public static void main(String[] args) {
        go();
        goLimits();
        wouldByKinds();
        wouldByLetters();
        wouldByClauses();
        wouldRefuses();
        aim();
        cord();
        best();
        when();
        Due.end();
    }

    private static void due(String call, long got, long want) {
        Due.due(call, got, want);
    }

    private static void would(String name, LargeBubble x, int blower, int... want) {
        for (int what = 0; what < 5; what++) {
            due(name + ", what " + what, x.would(blower, what), want[what]);
        }
    }

    private static void go() {
        LargeBubble x = Due.with(0, 0, 3, 12);
        x.blower(0, 0, 1, 60);
        due("11 a bubble", x.go(0), 12);
        due("11 a dip less", x.told(3), 19);
        due("11 minutes", x.told(5), 6);
        due("11 coins", x.of(0, 4), 360);
        due("11 torn", x.go(1), 0);
        due("11 a dip less when torn", x.told(3), 18);
        due("11 minutes when torn", x.told(5), 17);
        due("11 no coins when torn", x.of(1, 4), 0);
        due("11 again", x.go(0), 12);
        due("11 coins together", x.of(0, 4), 720);
        due("11 no such one", x.go(2), -1);
        due("11 one below 0", x.go(-1), -1);
    }

    private static void goLimits() {
        LargeBubble x = Due.with(0, 0, 9, 20);
        Due.square(x, "coin 99 b=0;dry 0 b=1");
        x.mix(3, 99);
        for (int i = 1; i <= 10; i++) {
            x.go(0);
            due("11 coins, 99999 a go", x.of(0, 4), 99999 * i);
        }
        x.go(0);
        due("11 coins, 999999 at most", x.of(0, 4), 999999);
        due("11 DIPS", x.told(3), 88);
        x.mix(3, 1);
        due("11 the last dip", x.go(0), 20);
        due("11 no dip", x.go(0), -3);
        due("11 NONE ahead of STATE", x.go(1), -1);
        due("11 would without a dip", x.would(0, 0), 20);
        x.mix(3, 9);
        for (int i = 0; i < 165 && x.told(5) < 9840; i++) x.pause(60);
        x.pause(9900 - x.told(5));
        due("11 at 9900", x.go(0), 20);
        due("11 MINUTE", x.told(5), 9910);
        due("11 above 9900", x.go(0), -3);
        due("11 DIPS stay", x.told(3), 8);
        LargeBubble y = Due.with(0, 0, 9, 20);
        for (int i = 0; i < 165; i++) y.pause(60);
        y.pause(1);
        due("11 at 9901", y.go(0), -3);
    }

    private static void wouldByKinds() {
        would("12 BLOWER", Due.with(0, 0, 3, 12), 0, 12, 30, 0, 360, 6);
        would("12 BLOWER, odd aim, v of no matter", Due.with(0, 9, 3, 11), 0, 12, 30, 0, 360, 6);
        would("12 torn by the film", Due.with(0, 0, 1, 60), 0, 0, 0, 1, 0, 11);
        would("12 not torn at the half", Due.with(0, 0, 1, 20), 0, 20, 10 * 10 / 21 / 2, 0, 40, 10);
        would("12 torn by the minutes", Due.with(3, 0, 9, 31), 0, 0, 0, 1, 0, 30);
        would("12 in the 30th minute", Due.with(3, 9, 9, 30), 0, 30, 38, 0, 1140, 30);
        would("12 BOLD", Due.with(1, 4, 3, 12), 0, 16, 21, 0, 336, 8);
        would("12 CAREFUL by the film", Due.with(2, 0, 1, 60), 0, 16, 140 / 17 / 2, 0, 64, 8);
        would("12 CAREFUL by the film and v", Due.with(2, 2, 1, 60), 0, 14, 160 / 15 / 2, 0, 70, 7);
        would("12 CAREFUL by the aim", Due.with(2, 0, 9, 4), 0, 4, 2660 / 5 / 2, 0, 1064, 2);
        would("12 MAD", Due.with(4, 0, 9, 30), 0, 31, 2390 / 32 / 2, 0, 31 * 37, 12);
        would("12 MAD with v", Due.with(4, 2, 9, 30), 0, 33, 2370 / 34 / 2, 0, 33 * 34, 13);
        would("12 WISE without wind", Due.with(5, 0, 9, 60), 0, 10, 2600 / 11 / 2, 0, 1180, 5);
        would("12 WISE by the aim", Due.with(5, 0, 9, 3), 0, 4, 266, 0, 1064, 2);
        LargeBubble windy = Due.with(5, 9, 1, 60);
        Due.square(windy, "wind 1 b=0");
        would("12 WISE by the film", windy, 0, 10, 150 / 11 / 2, 0, 60, 5);
        windy.set(0, 0, 2);
        would("12 WISE by the film, later", windy, 0, 22, (60 - 33) * 10 / 23 / 2, 0, 110, 11);
        would("12 TOLD", Due.with(6, 9, 9, 5), 0, 5, 2650 / 6 / 2, 0, 1100, 5);
        LargeBubble mad = Due.with(4, 0, 9, 3);
        Due.square(mad, "wind 6 m<3;wind 5 m>2");
        would("12 MAD, never above 5", mad, 0, 12, (270 - 12 - 23) * 10 / 13 / 2, 0, 12 * 90, 4);
        LargeBubble wise = Due.with(5, 0, 9, 60);
        Due.square(wise, "wind 1 m<7");
        would("12 WISE, wind of this step", wise, 0, 16, (270 - 16 - 7) * 10 / 17 / 2, 0, 16 * 72, 8);
        LargeBubble told = Due.with(6, 0, 9, 5);
        told.row(0, 1, 9);
        told.row(0, 2, 1);
        told.row(0, 3, 9);
        would("12 TOLD, the row as MINUTE is then", told, 0, 6, 2640 / 7 / 2, 0, 1128, 6);
        told.pause(2);
        would("12 TOLD, later", told, 0, 6, 188, 0, 1128, 6);
        told.pause(1);
        would("12 TOLD, later still", told, 0, 5, 220, 0, 1100, 5);
    }

    private static void wouldByLetters() {
        LargeBubble x = new LargeBubble();
        for (int b = 0; b < 5; b++) x.blower(b == 4 ? 6 : 0, 2 * b, 9, 20);
        Due.square(x, "dry 3 b=1");
        for (int b = 0; b < 4; b++) due("12 letter b of " + b, x.would(b, 1), b == 1 ? 29 : 119);
        Due.square(x, "dry 3 k=6");
        due("12 letter k", x.would(4, 1), 2500 / 21 / 4);
        due("12 letter k of another", x.would(3, 1), 119);
        Due.square(x, "dry 3 v>5");
        for (int b = 0; b < 5; b++) due("12 letter v of " + b, x.would(b, 1), b >= 3 ? 29 : 119);
        LargeBubble m = Due.with(0, 0, 9, 20);
        Due.square(m, "dry 9 m=11|m=10");
        m.pause(1);
        due("12 letter m, 11", m.would(0, 1), 11);
        m.pause(1);
        due("12 letter m, 12 is 0", m.would(0, 1), 119);
        LargeBubble s = Due.with(0, 0, 9, 20);
        Due.square(s, "wind 7 s=0;dry 1 s=2");
        due("12 letter s ahead of the walk", s.would(0, 1), (270 - 20 - 35) * 10 / 21 / 2);
        LargeBubble f = Due.with(0, 0, 9, 20);
        Due.square(f, "wind 9 f>26;dry 1 f=24;coin 2 f<24|f>24");
        due("12 letter f ahead of the walk", f.would(0, 1), (270 - 20 - 9) * 10 / 21 / 2);
        due("12 coins without a clause that holds", f.would(0, 3), 0);
    }

    private static void wouldByClauses() {
        String[] so = {
            "b<1", "b=0", "!!b=0", "(b=0)", "b=00", "v>3&v<5", "b=0|b=1", "b=1|b=0", "b=0&v=4", "b=1|b=0&v=4",
            "b=0|b=0&v=5", "b=0&v=5|b=0", "!(b=1&v=5)", "!b=0|b=0", "b=1|b=1|b=1|b=0", "(b=0&(v=5|!(v=5)))",
            "k=0&v=04&m=10&s=2&f=25", "b=1&b=1|b=0&b=0", "b=1&b=0|b=0", "(b=1|b=0)&(b=0|b=1)", "!b=1&!b=2&!(!b=0)"};
        String[] notSo = {
            "b>0", "b<0", "!b=0", "b=1|b=2", "b=0&b=1", "(b=0|b=0)&v=5", "!b=1&v=5", "!(b=0|b=0)", "v>4|v<4",
            "b=0&b=0&b=0&b=1", "k=4&v=4&m=10", "!(b=0&(v=4|!v=5))", "b=0&b=1|b=1&b=0|b=1", "b=1&(b=0|b=0)"};
        for (String test : so) due("12 " + test, bringsBy(test), 3 * 1180);
        for (String test : notSo) due("12 " + test, bringsBy(test), 0);
        LargeBubble x = Due.with(0, 4, 9, 20);
        Due.square(x, "coin 3 b=0;wind 2 v=4;coin 20 v=4;dry 1 b=0;wind 01 b=0;coin 40 b=1;dry 2 b=0;wind 50 b=1");
        would("12 those that hold, together", x, 0, 20, (270 - 20 - 30) * 10 / 21 / 4, 0, 20 * 26 * 23, 10);
        Due.square(x, "dry 2 b=1;coin 9 b=1");
        would("12 clauses of which none holds", x, 0, 20, 119, 0, 0, 10);
        Due.square(x, "wind 99 m=2");
        due("12 wind in one minute", x.would(0, 3), 20 * ((270 - 20 - 99) * 10 / 21 / 2));
        Due.square(x, "coin 84 b=0;dry 1 b=0");
        due("12 below 99999", x.would(0, 3), 99120);
        Due.square(x, "coin 85 b=0;dry 1 b=0");
        due("12 99999 at most", x.would(0, 3), 99999);
    }

    /** By a test of BLOWER 0 with v 4, whose SIZE is 20 at MINUTE 10. */
    private static int bringsBy(String test) {
        LargeBubble x = Due.with(0, 4, 9, 20);
        due("12 square " + test, Due.square(x, "coin 3 " + test), 0);
        return x.would(0, 3);
    }

    private static void wouldRefuses() {
        LargeBubble x = Due.with(0, 0, 3, 12);
        due("12 what 5", x.would(0, 5), -1);
        due("12 what -1", x.would(0, -1), -1);
        due("12 no such one", x.would(1, 0), -1);
        due("12 one below 0", x.would(-1, 0), -1);
        due("12 changes nothing", x.told(3) * 100 + x.told(5), 2000);
        int[] none = {x.aim(1, 0), x.aim(0, 2), x.aim(0, -1), x.cord(1, 0), x.cord(0, 2), x.cord(-1, 0),
            x.best(1, 0), x.best(0, 2), x.best(0, -1), x.when(1, 0), x.when(0, 2), x.when(-1, 1)};
        for (int answer : none) due("13 to 16 NONE", answer, -1);
    }

    private static void aim() {
        LargeBubble x = Due.with(0, 0, 3, 12);
        // SIZE 4 brings 344, SIZE 6, 8, 10, 12 bring 360, and SIZE 14 brings 350.
        due("13 the least of several", x.aim(0, 0), 5);
        due("13 how much", x.aim(0, 1), 360);
        due("13 changes nothing", x.of(0, 3), 12);
        LargeBubble torn = Due.with(0, 0, 1, 60);
        Due.square(torn, "wind 99 b=0");
        due("13 none brings", torn.aim(0, 0), 1);
        due("13 none brings: how much", torn.aim(0, 1), 0);
        LargeBubble far = Due.with(0, 0, 9, 1);
        Due.square(far, "coin 5 s=6;coin 0 s<9");
        due("13 as far as 60", far.aim(0, 0), 59);
        due("13 as far as 60: how much", far.aim(0, 1), 60 * (2100 / 61 / 2) * 5);
        LargeBubble slow = Due.with(6, 0, 9, 1);
        Due.square(slow, "coin 1 s=3&f>23");
        slow.row(0, 0, 1);
        slow.row(0, 1, 1);
        slow.row(0, 2, 1);
        due("13 of a TOLD one, with the row", slow.aim(0, 0), 29);
        due("13 of a TOLD one: how much", slow.aim(0, 1), 30 * 38);
    }

    private static void cord() {
        LargeBubble x = Due.with(0, 0, 3, 20);
        due("14 the thickest", x.cord(0, 0), 9);
        due("14 how much", x.cord(0, 1), 20 * (2500 / 21 / 2));
        due("14 changes nothing", x.of(0, 2), 3);
        Due.square(x, "coin 1 f<10");
        due("14 another", x.cord(0, 0), 3);
        due("14 another: how much", x.cord(0, 1), 20 * (700 / 21 / 2));
        Due.square(x, "coin 0 b=0");
        due("14 the least of several", x.cord(0, 0), 1);
        due("14 the least of several: how much", x.cord(0, 1), 0);
    }

    private static void best() {
        LargeBubble x = Due.with(0, 0, 3, 20);
        x.mix(0, 0);
        due("15 5 and 3", x.best(0, 0), 53);
        due("15 how much", x.best(0, 1), 20 * 16);
        due("15 changes nothing", x.told(0), 0);
        x.mix(2, 9);
        due("15 with GUAR", x.best(0, 1), 20 * (970 / 21 / 2));
        x.mix(2, 0);
        Due.square(x, "coin 1 f<5");
        // FILM has to be below 50 at SIZE 20, so GOOD, which is even, is 22 at most.
        due("15 the first by SOAP, then SUGAR", x.best(0, 0), 33);
        due("15 the first: how much", x.best(0, 1), 20 * (460 / 21 / 2));
        Due.square(x, "coin 0 b=0");
        due("15 all alike", x.best(0, 0), 0);
        due("15 all alike: how much", x.best(0, 1), 0);
    }

    private static void when() {
        LargeBubble x = Due.with(0, 0, 9, 20);
        due("16 all alike", x.when(0, 0), 0);
        due("16 all alike: how much", x.when(0, 1), 1180);
        Due.square(x, "coin 2 m=4;coin 1 m=3|m=9");
        due("16 one in 12, the least", x.when(0, 0), 6);
        due("16 one in 12: how much", x.when(0, 1), 2360);
        x.pause(7);
        due("16 from now", x.when(0, 0), 11);
        due("16 changes nothing", x.told(5), 7);
    }
}
