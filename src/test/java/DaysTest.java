/** Promises 17 to 26: days, what was seen, odds, books. */
public final class DaysTest {
    public static void main(String[] args) {
        day();
        dayByMinutes();
        most();
        longest();
        see();
        was();
        calm();
        odds();
        mean();
        book();
        looked();
        Due.end();
    }

    private static void due(String call, long got, long want) {
        Due.due(call, got, want);
    }

    /** 0 brings 360 in 6 minutes, 1 is torn in 11, 2 brings 1180 in 10. */
    private static LargeBubble three() {
        LargeBubble x = Due.with(0, 0, 3, 12);
        x.blower(0, 0, 1, 60);
        x.blower(0, 0, 9, 20);
        return x;
    }

    private static void day(String name, LargeBubble x, int n, int... want) {
        for (int b = 0; b < 3; b++) due(name + " of " + b, x.day(n, b), want[b]);
        due(name + " torn", x.day(n, 10), want[3]);
        due(name + " MINUTE", x.day(n, 11), want[4]);
    }

    private static void day() {
        LargeBubble x = three();
        day("17 none", x, 0, 0, 0, 0, 0, 0);
        day("17 one", x, 1, 360, 0, 0, 0, 6);
        day("17 two", x, 2, 360, 0, 0, 1, 17);
        day("17 four", x, 4, 720, 0, 1180, 1, 33);
        day("17 twenty", x, 20, 7 * 360, 0, 6 * 1180, 7, 6 * 27 + 17);
        x.mix(3, 2);
        day("17 two dips", x, 20, 360, 0, 0, 1, 17);
        x.mix(3, 0);
        x.pause(5);
        day("17 no dip", x, 20, 0, 0, 0, 0, 5);
        due("17 n 21", x.day(21, 0), -2);
        due("17 n -1", x.day(-1, 11), -2);
        for (int what : new int[] {3, 4, 5, 9, 12, -1}) due("17 what " + what, x.day(21, what), -1);
        due("17 changes nothing", x.told(5) * 100 + x.told(3) + x.of(0, 4), 500);
        LargeBubble nobody = new LargeBubble();
        nobody.pause(7);
        due("17 nobody torn", nobody.day(20, 10), 0);
        due("17 nobody MINUTE", nobody.day(20, 11), 7);
        due("17 nobody 0", nobody.day(20, 0), -1);
    }

    private static void dayByMinutes() {
        LargeBubble x = three();
        Due.square(x, "coin 5 m=0");
        // The goes end at 6, 17, 27, 33, 44, 54, 60.
        day("17 six by minutes", x, 6, 0, 0, 0, 2, 54);
        day("17 seven by minutes", x, 7, 5 * 360, 0, 0, 2, 60);
        for (int i = 0; i < 166; i++) x.pause(60);
        x.pause(39);
        day("17 beyond 9999", x, 3, 0, 0, 0, 1, 9999 + 27);
        LargeBubble rich = Due.with(0, 0, 9, 20);
        Due.square(rich, "coin 99 b=0;dry 0 b=1");
        due("17 together, above 999999", rich.day(20, 0), 20 * 99999);
    }

    private static void most() {
        LargeBubble x = new LargeBubble();
        due("18 nobody", x.most(0), -5);
        due("18 nobody, 20", x.most(20), -5);
        LargeBubble y = three();
        due("18 none", y.most(0), 0);
        due("18 one", y.most(1), 0);
        due("18 three", y.most(3), 2);
        y.mix(3, 2);
        due("18 two dips", y.most(20), 0);
        due("18 n 21", y.most(21), -2);
        due("18 n -1", y.most(-1), -2);
        LargeBubble z = Due.with(0, 0, 1, 60);
        for (int i = 0; i < 3; i++) z.blower(0, 0, 9, 20);
        due("18 the first of several", z.most(4), 1);
        due("18 who goes more often", z.most(20), 1);
    }

    private static void longest() {
        LargeBubble x = Due.with(0, 0, 9, 20);
        due("19 all alike", x.longest(0, 0), 59);
        due("19 all alike, minutes", x.longest(0, 1), 0);
        Due.square(x, "dry 9 m=10|m=11|m=0;dry 3 m=1");
        due("19 later", x.longest(0, 0), 119);
        due("19 later, minutes", x.longest(0, 1), 4);
        Due.square(x, "dry 9 m<9|m>9");
        due("19 11 minutes", x.longest(0, 1), 11);
        x.pause(5);
        due("19 from now", x.longest(0, 1), 6);
        x.mix(3, 0);
        due("19 without dips", x.longest(0, 0), 119);
        Due.square(x, "wind 99 b=0");
        due("19 torn", x.longest(0, 0), 0);
        due("19 torn, minutes", x.longest(0, 1), -5);
        Due.square(x, "dry 99 b=0;dry 99 b=0");
        due("19 LIFE 0", x.longest(0, 1), -5);
        due("19 no such one", x.longest(1, 0), -1);
        due("19 one below 0", x.longest(-1, 1), -1);
        due("19 what 2", x.longest(0, 2), -1);
        due("19 what -1", x.longest(0, -1), -1);
    }

    private static void see() {
        LargeBubble x = Due.with(0, 0, 1, 20);
        due("20 none", x.see(-1, 0, 0), 0);
        due("20 no such one", x.see(1, 0, 0), -1);
        due("20 one below -1", x.see(-2, 0, 0), -1);
        due("20 NONE ahead of BAD", x.see(1, 31, 0), -1);
        due("20 n 31", x.see(0, 31, 0), -2);
        due("20 n -1", x.see(0, -1, 0), -2);
        due("20 size 100", x.see(0, 0, 100), -2);
        due("20 size -1", x.see(0, 0, -1), -2);
        due("20 first", x.see(0, 0, 0), 1);
        due("20 edges", x.see(0, 30, 99), 2);
        for (int i = 3; i <= 6; i++) due("20 more", x.see(0, 0, 0), i);
        due("20 FULL", x.see(0, 0, 0), -4);
        due("20 BAD ahead of FULL", x.see(0, 0, 100), -2);
        due("20 six", x.count(2), 6);
        due("20 none then", x.see(-1, 99, -99), 0);
        due("20 count", x.count(2), 0);
        due("20 again", x.see(0, 1, 1), 1);
    }

    private static void was() {
        LargeBubble x = Due.with(0, 0, 1, 20);
        due("21 nothing seen", x.was(), 1023);
        x.see(0, 0, 20);
        due("21 a bubble", x.was(), 1 << 5);
        x.mix(0, 9);
        due("21 whatever SOAP is", x.was(), 1 << 5);
        x.mix(2, 4);
        due("21 by GUAR", x.was(), 1 << 4 | 1 << 5 | 1 << 6);
        x.mix(1, 2);
        due("21 by SUGAR", x.was(), 1 << 5);
        x.see(0, 0, 0);
        due("21 not both", x.was(), 0);
        x.see(-1, 0, 0);
        x.see(0, 0, 0);
        due("21 torn", x.was(), 1023 - (1 << 5));
        LargeBubble y = Due.with(0, 0, 1, 20);
        Due.square(y, "wind 1 m=0");
        y.see(0, 1, 20);
        due("21 a minute from now", y.was(), 1 << 5);
        y.see(0, 13, 20);
        y.see(0, 26, 20);
        due("21 three", y.was(), 1 << 5);
        y.see(0, 3, 20);
        due("21 four", y.was(), 0);
        y.see(-1, 0, 0);
        y.see(0, 30, 0);
        due("21 30 minutes", y.was(), 1023);
        y.see(-1, 0, 0);
        y.blower(0, 0, 9, 20);
        y.see(0, 1, 20);
        y.see(1, 1, 20);
        due("21 another blower, who always has a bubble", y.was(), 1 << 5);
        y.see(1, 2, 0);
        due("21 another blower, never torn", y.was(), 0);
    }

    private static void calm() {
        LargeBubble x = Due.with(0, 0, 9, 20);
        due("22 no square", x.calm(0), 0);
        Due.square(x, "wind 5 m=0");
        due("22 more", x.calm(0), 20);
        x.pause(1);
        due("22 no wind now", x.calm(0), 0);
        due("22 no such one", x.calm(1), -1000001);
        due("22 one below 0", x.calm(-1), -1000001);
        LargeBubble wise = Due.with(5, 0, 9, 20);
        Due.square(wise, "wind 1 b=0;coin 1 s=2");
        due("22 below 0", wise.calm(0), -1140);
        due("22 the wind is there behind it", wise.would(0, 3), 1140);
        LargeBubble torn = Due.with(0, 0, 9, 20);
        Due.square(torn, "wind 99 b=0;dry 3 b=0");
        due("22 not torn", torn.calm(0), 29 * 20);
    }

    private static void odds(String name, LargeBubble x, long above, long below) {
        due(name + ", above", x.odds(0, 0), above);
        due(name + ", below", x.odds(0, 1), below);
    }

    private static void odds() {
        odds("23 each gust but none", Due.with(0, 0, 1, 20), 9, 10);
        odds("23 lowest terms", Due.with(0, 0, 1, 18), 3, 5);
        odds("23 never", Due.with(0, 0, 2, 20), 0, 1);
        odds("23 always", Due.with(0, 0, 1, 60), 1, 1);
        LargeBubble mad = Due.with(4, 0, 1, 3);
        Due.square(mad, "wind 99 m=1");
        odds("23 MAD looks at the gust, too", mad, 2, 5);
        LargeBubble wind = Due.with(0, 0, 1, 18);
        Due.square(wind, "wind 2 m=5");
        odds("23 with wind", wind, 4, 5);
        due("23 no gust is left behind it", wind.would(0, 0), 18);
        due("23 part 2", wind.odds(0, 2), Long.MIN_VALUE);
        due("23 part -1", wind.odds(0, -1), Long.MIN_VALUE);
        due("23 no such one", wind.odds(1, 0), Long.MIN_VALUE);
        due("23 one below 0", wind.odds(-1, 0), Long.MIN_VALUE);
    }

    private static void mean() {
        LargeBubble x = Due.with(0, 0, 9, 20);
        due("24 all alike, above", x.mean(0, 0), 1180);
        due("24 all alike, below", x.mean(0, 1), 1);
        Due.square(x, "coin 3 m=10;coin 1 m=11");
        due("24 two of 12, above", x.mean(0, 0), 1180);
        due("24 two of 12, below", x.mean(0, 1), 3);
        Due.square(x, "coin 1 m=9;dry 0 m=9");
        due("24 11 minutes from now, above", x.mean(0, 0), 20 * 119 / 4);
        due("24 11 minutes from now, below", x.mean(0, 1), 3);
        Due.square(x, "coin 0 m=9");
        due("24 none, above", x.mean(0, 0), 0);
        due("24 none, below", x.mean(0, 1), 1);
        due("24 part 2", x.mean(0, 2), Long.MIN_VALUE);
        due("24 part -1", x.mean(0, -1), Long.MIN_VALUE);
        due("24 no such one", x.mean(1, 0), Long.MIN_VALUE);
        due("24 one below 0", x.mean(-1, 0), Long.MIN_VALUE);
    }

    private static void book() {
        LargeBubble x = Due.with(0, 0, 3, 12);
        due("25 empty", x.book(-1, true), 0);
        due("25 no such one", x.book(1, true), -1);
        due("25 one below -1", x.book(-2, true), -1);
        for (int i = 1; i <= 12; i++) due("25 more", x.book(0, false), i);
        due("25 FULL", x.book(0, false), -4);
        due("25 NONE ahead of FULL", x.book(5, false), -1);
        due("25 twelve", x.count(3), 12);
        due("25 all as told", x.looked(), -5);
        due("25 empty then", x.book(-1, false), 0);
        due("25 count", x.count(3), 0);
        due("25 again", x.book(0, true), 1);
    }

    private static void looked() {
        LargeBubble x = three();
        due("26 none", x.looked(), -5);
        x.book(0, false);
        x.book(1, true);
        due("26 as told", x.looked(), -5);
        x.book(1, false);
        x.book(2, true);
        due("26 the first otherwise", x.looked(), 2);
        x.mix(3, 2);
        due("26 no dip for the third", x.looked(), 2);
        x.mix(3, 1);
        due("26 no dip for the second", x.looked(), 1);
        x.mix(3, 0);
        due("26 no dip", x.looked(), 0);
        LargeBubble y = three();
        Due.square(y, "wind 99 m=7");
        y.book(0, false);
        y.book(0, true);
        y.book(0, false);
        due("26 one behind the other", y.looked(), -5);
        // The fourth begins at 14, so it is there at MINUTE 19, which is 7 modulo 12.
        y.book(0, false);
        due("26 the fourth is otherwise", y.looked(), 3);
        y.pause(2);
        due("26 from now on", y.looked(), 0);
        due("26 changes nothing", y.told(5) * 100 + y.told(3), 220);
    }
}
