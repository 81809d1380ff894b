/** Boundaries of days, of what was seen, of odds and books (promises 17 to 26). */
public final class EdgesOfDaysTest {
    private static final int BLOWER = 0, SLOW = 3, MAD = 4, WISE = 5;

    public static void main(String[] args) {
        dayGoes();
        dayDips();
        dayOfMany();
        dayIsOver();
        most();
        longest();
        see();
        was();
        wasFrom();
        calm();
        odds();
        mean();
        book();
        looked();
        lookedDips();
        lookedFrom();
        Due.end();
    }

    private static void due(String sentence, long got, long want) {
        Due.due(sentence, got, want);
    }

    /** n who have a bubble in 10 MINUTES, which brings 1180. */
    private static LargeBubble alike(int n) {
        LargeBubble x = new LargeBubble();
        for (int i = 0; i < n; i++) x.blower(BLOWER, 0, 9, 20);
        return x;
    }

    private static LargeBubble clauses(int kind, int cord, int aim, String square) {
        LargeBubble x = Due.with(kind, 0, cord, aim);
        Due.square(x, square);
        return x;
    }

    private static void dayGoes() {
        Edge.is("17 n 0: nothing", 0, alike(1), x -> x.day(0, 0));
        Edge.is("17 n 0: none TORN", 0, Due.with(BLOWER, 0, 1, 60), x -> x.day(0, 10));
        Edge.is("17 n 0: MINUTE", 7, Edge.at(7), x -> x.day(0, 11));
        Edge.is("17 n 1", 1180, alike(1), x -> x.day(1, 0));
        Edge.is("17 n 20", 20 * 1180, alike(1), x -> x.day(20, 0));
        Edge.is("17 n 20, TORN", 20, Due.with(BLOWER, 0, 1, 60), x -> x.day(20, 10));
        Edge.is("17 n 20, MINUTE", 20 * 11, Due.with(BLOWER, 0, 1, 60), x -> x.day(20, 11));
        Edge.is("17 nobody: none TORN", 0, new LargeBubble(), x -> x.day(20, 10));
        Edge.is("17 nobody: MINUTE", 0, new LargeBubble(), x -> x.day(20, 11));
        LargeBubble rich = clauses(BLOWER, 9, 20, "coin 99 b=0;dry 0 b=0");
        due("17 what they BRING together is not cut", rich.day(20, 0), 20 * 99999);
    }

    private static LargeBubble dips(int dips) {
        LargeBubble x = alike(2);
        x.mix(3, dips);
        return x;
    }

    private static void dayDips() {
        Edge.is("17 as long as there are DIPS: none, BRING", 0, dips(0), x -> x.day(20, 0));
        Edge.is("17 as long as there are DIPS: none, MINUTE", 0, dips(0), x -> x.day(20, 11));
        Edge.is("17 as long as there are DIPS: one, of 0", 1180, dips(1), x -> x.day(20, 0));
        Edge.is("17 as long as there are DIPS: one, of 1", 0, dips(1), x -> x.day(20, 1));
        Edge.is("17 as long as there are DIPS: one, MINUTE", 10, dips(1), x -> x.day(20, 11));
        Edge.is("17 as many DIPS as GOES", 190, dips(19), x -> x.day(19, 11));
        Edge.is("17 one DIP less than GOES", 190, dips(19), x -> x.day(20, 11));
        Edge.is("17 one DIP more than GOES", 190, dips(20), x -> x.day(19, 11));
        Edge.is("17 99 DIPS", 200, dips(99), x -> x.day(20, 11));
    }

    private static void dayOfMany() {
        int[] three = {4, 3, 3};
        for (int b = 0; b < 3; b++) {
            int one = b;
            Edge.is("17 over and over, from 0 on: of " + b, three[b] * 1180, alike(3), x -> x.day(10, one));
        }
        for (int b = 0; b < 5; b++) {
            int one = b;
            Edge.is("17 five, once each: of " + b, 1180, alike(5), x -> x.day(5, one));
            Edge.is("17 five, and 0 once more: of " + b, b == 0 ? 2360 : 1180, alike(5), x -> x.day(6, one));
            Edge.is("17 five, but for the last: of " + b, b == 4 ? 0 : 1180, alike(5), x -> x.day(4, one));
        }
        LargeBubble behind = alike(2);
        Due.square(behind, "coin 1 m=8");
        due("17 one behind the other: MINUTE 20 is 8", behind.day(2, 1), 1180);
        due("17 one behind the other: MINUTE 10 is not", behind.day(2, 0), 0);
    }

    private static void dayIsOver() {
        LargeBubble x = alike(1);
        x.blower(BLOWER, 0, 1, 60);
        for (int i = 0; i < 2; i++) {
            due("17 a DAY does not go on from the one before: of 0", x.day(4, 0), 2 * 1180);
            due("17 a DAY does not go on from the one before: TORN", x.day(4, 10), 2);
            due("17 a DAY does not go on from the one before: MINUTE", x.day(4, 11), 42);
            x.most(20);
        }
    }

    private static void most() {
        Edge.is("18 nobody is there, n 0", -5, new LargeBubble(), x -> x.most(0));
        Edge.is("18 nobody is there, n 20", -5, new LargeBubble(), x -> x.most(20));
        Edge.is("18 n 0: of several the first", 0, alike(2), x -> x.most(0));
        Edge.is("18 of several the first: all alike", 0, alike(5), x -> x.most(20));
        Edge.is("18 one GO more than the others", 0, alike(3), x -> x.most(4));
        LargeBubble last = new LargeBubble();
        for (int b = 0; b < 5; b++) last.blower(BLOWER, 0, b < 4 ? 1 : 9, 60);
        due("18 the last of five", last.most(20), 4);
        due("18 the last of five has no GO", last.most(4), 0);
        due("18 the last of five has one", last.most(5), 4);
        LargeBubble torn = Due.with(BLOWER, 0, 1, 60);
        torn.blower(BLOWER, 0, 1, 60);
        due("18 all TORN: the first", torn.most(20), 0);
        LargeBubble second = Due.with(BLOWER, 0, 1, 60);
        second.blower(BLOWER, 0, 9, 20);
        second.mix(3, 1);
        due("18 as long as there are DIPS", second.most(20), 0);
        second.mix(3, 2);
        due("18 a DIP for the second", second.most(20), 1);
    }

    private static void longest() {
        Edge.is("19 from now, 0 MINUTES", 0, clauses(BLOWER, 9, 20, "dry 9 m=9"), x -> x.longest(0, 1));
        Edge.is("19 11 MINUTES from now", 11, clauses(BLOWER, 9, 20, "dry 1 m<9|m>9"), x -> x.longest(0, 1));
        Edge.is("19 11 MINUTES from now: LIFE", 119, clauses(BLOWER, 9, 20, "dry 1 m<9|m>9"), x -> x.longest(0, 0));
        Edge.is("19 of several the least", 2, clauses(BLOWER, 9, 20, "dry 1 m=10|m=11"), x -> x.longest(0, 1));
        Edge.is("19 LIFE 1", 1, clauses(BLOWER, 9, 20, "dry 99 b=0;dry 19 b=0"), x -> x.longest(0, 0));
        Edge.is("19 LIFE 1: how many MINUTES", 0, clauses(BLOWER, 9, 20, "dry 99 b=0;dry 19 b=0"), x -> x.longest(0, 1));
        Edge.is("19 0: LIFE 0", 0, clauses(BLOWER, 9, 20, "dry 99 b=0;dry 20 b=0"), x -> x.longest(0, 0));
        Edge.is("19 -5: it is 0, by LIFE 0", -5, clauses(BLOWER, 9, 20, "dry 99 b=0;dry 20 b=0"), x -> x.longest(0, 1));
        Edge.is("19 0: each would be TORN", 0, Due.with(BLOWER, 0, 1, 60), x -> x.longest(0, 0));
        Edge.is("19 -5: it is 0, each TORN", -5, Due.with(BLOWER, 0, 1, 60), x -> x.longest(0, 1));
        Edge.is("19 DIPS do not matter", 59, Edge.dips(0), x -> x.longest(0, 0));
        Edge.is("19 MINUTES beyond 9999", 59, Edge.at(9999), x -> x.longest(0, 0));
    }

    private static LargeBubble seen(int n) {
        LargeBubble x = alike(2);
        for (int i = 0; i < n; i++) x.see(i % 2, i, 20);
        return x;
    }

    private static void see() {
        Edge.is("20 the first", 1, seen(0), x -> x.see(0, 1, 1));
        Edge.is("20 the last of 6", 6, seen(5), x -> x.see(0, 1, 1));
        Edge.is("20 n 0", 1, seen(0), x -> x.see(0, 0, 1));
        Edge.is("20 n 30", 1, seen(0), x -> x.see(0, 30, 1));
        Edge.is("20 size 0", 1, seen(0), x -> x.see(0, 1, 0));
        Edge.is("20 size 99", 1, seen(0), x -> x.see(0, 1, 99));
        Edge.is("20 blower -1: none then", 0, seen(6), x -> x.see(-1, 0, 0));
        Edge.is("20 blower -1, whatever n is", 0, seen(6), x -> x.see(-1, -9, 0));
        Edge.is("20 blower -1, whatever n is, above", 0, seen(6), x -> x.see(-1, 31, 0));
        Edge.is("20 blower -1, whatever size is", 0, seen(6), x -> x.see(-1, 0, 100));
        Edge.is("20 blower -1, nobody there", 0, new LargeBubble(), x -> x.see(-1, 0, 0));
        LargeBubble x = seen(6);
        x.see(-1, 99, 99);
        due("20 none then, counted", x.count(2), 0);
        due("20 none then: WAS", x.was(), 1023);
        due("20 the next is the first again", x.see(0, 1, 1), 1);
    }

    /** One whose bubble of SIZE 8 is TORN by SOAP 0 alone. */
    private static LargeBubble soapy() {
        return Due.with(SLOW, 0, 1, 8);
    }

    private static LargeBubble soapySeen(int n, int size) {
        LargeBubble x = soapy();
        x.see(0, n, size);
        return x;
    }

    private static void was() {
        Edge.is("21 none SEEN: all ten", 1023, soapy(), x -> x.was());
        Edge.is("21 SOAP 0 alone", 1, soapySeen(0, 0), x -> x.was());
        Edge.is("21 SOAP 1 .. 9", 1022, soapySeen(0, 8), x -> x.was());
        Edge.is("21 no SOAP: another SIZE", 0, soapySeen(0, 9), x -> x.was());
        Edge.is("21 30 MINUTES from now", 1022, soapySeen(30, 8), x -> x.was());
        LargeBubble all = soapySeen(0, 8);
        for (int i = 1; i < 5; i++) all.see(0, i, 8);
        due("21 five are so", all.was(), 1022);
        all.see(0, 5, 7);
        due("21 all of SEEN is so: not the last of 6", all.was(), 0);
        LargeBubble two = soapy();
        two.blower(BLOWER, 0, 9, 20);
        two.see(1, 0, 20);
        due("21 one of the BLOWERS: the second", two.was(), 1023);
        two.see(0, 0, 20);
        due("21 one of the BLOWERS: not the first", two.was(), 0);
        LargeBubble first = soapySeen(0, 7);
        for (int i = 1; i < 6; i++) first.see(0, i, 8);
        due("21 all of SEEN is so: not the first of 6", first.was(), 0);
    }

    private static void wasFrom() {
        LargeBubble x = soapySeen(0, 8);
        x.mix(0, 0);
        due("21 whatever SOAP is now", x.was(), 1022);
        x.mix(2, 9);
        due("21 all else as it is: GUAR", x.was(), 1023);
        x.mix(1, 9);
        due("21 all else as it is: SUGAR", x.was(), 1023 - 1 - 2 - 512);
        x.mix(3, 0);
        due("21 without DIPS", x.was(), 1023 - 1 - 2 - 512);
        LargeBubble wind = soapy();
        Due.square(wind, "wind 30 m=5");
        wind.see(0, 5, 0);
        due("21 n MINUTES from now, at the wind", wind.was(), 1023);
        wind.see(0, 6, 8);
        due("21 n MINUTES from now, behind the wind", wind.was(), 1022);
        wind.pause(12);
        due("21 from now on", wind.was(), 1022);
        wind.pause(1);
        due("21 from now on, later", wind.was(), 0);
    }

    private static void calm() {
        Edge.is("22 no WIND: 0", 0, alike(1), x -> x.calm(0));
        Edge.is("22 WIND 1", 20 * (59 - 2490 / 21 / 2), clauses(BLOWER, 9, 20, "wind 1 m=0"), x -> x.calm(0));
        Edge.is("22 WIND tears", 1180, clauses(BLOWER, 9, 20, "wind 99 b=0"), x -> x.calm(0));
        Edge.is("22 may be below 0", -20 * ((2500 - 100) / 21 / 2), clauses(WISE, 9, 20, "wind 1 b=0;coin 1 s=2"), x -> x.calm(0));
        Edge.is("22 far below 0", -99999, clauses(WISE, 9, 20, "wind 1 b=0;coin 99 s=2;dry 0 b=0"), x -> x.calm(0));
        Edge.is("22 DIPS do not matter", 0, Edge.dips(0), x -> x.calm(0));
        Edge.is("22 a GO now, both", 0, clauses(BLOWER, 9, 20, "coin 9 m=10"), x -> x.calm(0));
        Edge.is("22 a GO now, later", 0, clauses(BLOWER, 9, 20, "coin 9 m=8"), x -> x.calm(0));
    }

    private static void fraction(String sentence, LargeBubble x, int above, int below) {
        due(sentence + ": above", x.odds(0, 0), above);
        due(sentence + ": below", x.odds(0, 1), below);
    }

    private static void odds() {
        fraction("23 by no gust", alike(1), 0, 1);
        fraction("23 by each gust", Due.with(BLOWER, 0, 1, 60), 1, 1);
        fraction("23 by a gust of 9 alone", Due.with(SLOW, 0, 1, 15), 1, 10);
        fraction("23 by all but a gust of 0", Due.with(BLOWER, 0, 1, 20), 9, 10);
        fraction("23 in lowest terms, by 2: 6 of 10", Due.with(BLOWER, 0, 1, 18), 3, 5);
        LargeBubble five = Due.with(SLOW, 0, 1, 16);
        five.mix(1, 2);
        fraction("23 in lowest terms, by 5: 5 of 10", five, 1, 2);
        fraction("23 adds to WIND", clauses(SLOW, 1, 15, "wind 2 m=9"), 3, 10);
        // At MINUTE 2, of no gust any more, MAD shuts; at MINUTE 1 only by a gust up to 5.
        fraction("23 at the first MINUTE alone", clauses(MAD, 1, 3, "wind 99 m=1"), 2, 5);
        fraction("23 at the first MINUTE, wherever it is", Edge.at(9999), 0, 1);
        fraction("23 DIPS do not matter", Edge.dips(0), 0, 1);
    }

    private static void means(String sentence, LargeBubble x, long above, long below) {
        due(sentence + ": above", x.mean(0, 0), above);
        due(sentence + ": below", x.mean(0, 1), below);
    }

    private static void mean() {
        means("24 none", Due.with(BLOWER, 0, 1, 60), 0, 1);
        means("24 all alike", alike(1), 1180, 1);
        means("24 now alone", clauses(BLOWER, 9, 20, "coin 1 m=10;dry 4 b=0"), 20 * 23 / 4, 3);
        means("24 11 MINUTES from now alone", clauses(BLOWER, 9, 20, "coin 1 m=9;dry 4 b=0"), 115, 3);
        means("24 lowest terms: by nothing", clauses(SLOW, 9, 1, "coin 1 m=0;dry 4 b=0"), 269, 12);
        means("24 lowest terms: by 2", clauses(SLOW, 9, 1, "coin 2 m=0;dry 4 b=0"), 269, 6);
        means("24 lowest terms: by 3", clauses(SLOW, 9, 1, "coin 3 m=0;dry 4 b=0"), 269, 4);
        means("24 lowest terms: by 4", clauses(SLOW, 9, 1, "coin 4 m=0;dry 4 b=0"), 269, 3);
        means("24 lowest terms: by 6", clauses(SLOW, 9, 1, "coin 6 m=0;dry 4 b=0"), 269, 2);
        means("24 lowest terms: by all of 12", clauses(SLOW, 9, 1, "coin 12 m=0;dry 4 b=0"), 269, 1);
        means("24 the most", clauses(BLOWER, 9, 20, "coin 99 b=0;dry 0 b=0"), 99999, 1);
    }

    private static LargeBubble book(int n) {
        LargeBubble x = alike(2);
        for (int i = 0; i < n; i++) x.book(i % 2, false);
        return x;
    }

    private static void book() {
        Edge.is("25 the first", 1, book(0), x -> x.book(0, true));
        Edge.is("25 the last of 12", 12, book(11), x -> x.book(1, true));
        Edge.is("25 blower -1: it is empty then", 0, book(12), x -> x.book(-1, false));
        Edge.is("25 blower -1, whatever the other is", 0, book(12), x -> x.book(-1, true));
        Edge.is("25 blower -1, nobody there", 0, new LargeBubble(), x -> x.book(-1, true));
        LargeBubble x = book(12);
        x.mix(3, 11);
        due("26 before", x.looked(), 11);
        x.book(-1, true);
        due("25 it is empty then, counted", x.count(3), 0);
        due("25 it is empty then: LOOKED at", x.looked(), -5);
        due("25 the next is the first again", x.book(0, true), 1);
    }

    private static LargeBubble otherwise(int n, int other) {
        LargeBubble x = alike(2);
        for (int i = 0; i < n; i++) x.book(i % 2, i == other);
        return x;
    }

    private static void looked() {
        Edge.is("26 -5: none, as the BOOK is empty", -5, alike(1), x -> x.looked());
        Edge.is("26 -5: none, of 12", -5, book(12), x -> x.looked());
        Edge.is("26 the first that is otherwise: 0", 0, otherwise(12, 0), x -> x.looked());
        Edge.is("26 the first that is otherwise: the last", 11, otherwise(12, 11), x -> x.looked());
        LargeBubble two = otherwise(4, 1);
        two.book(0, true);
        due("26 the first of two that are otherwise", two.looked(), 1);
        LargeBubble torn = Due.with(BLOWER, 0, 1, 60);
        torn.book(0, false);
        due("26 otherwise: TORN, and told that it is not", torn.looked(), 0);
        torn.book(-1, false);
        torn.book(0, true);
        due("26 TORN, and told so", torn.looked(), -5);
        LargeBubble second = alike(1);
        second.blower(BLOWER, 0, 1, 60);
        second.book(1, true);
        second.book(0, false);
        due("26 BLOWERS as told, not by numbers", second.looked(), -5);
    }

    private static LargeBubble bookDips(int n, int dips) {
        LargeBubble x = book(n);
        x.mix(3, dips);
        return x;
    }

    private static void lookedDips() {
        Edge.is("26 no DIP at all", 0, bookDips(12, 0), x -> x.looked());
        Edge.is("26 the first for which there is no DIP", 1, bookDips(12, 1), x -> x.looked());
        Edge.is("26 no DIP for the last", 11, bookDips(12, 11), x -> x.looked());
        Edge.is("26 a DIP for the last", -5, bookDips(12, 12), x -> x.looked());
        Edge.is("26 no DIP, and the BOOK is empty", -5, bookDips(0, 0), x -> x.looked());
        LargeBubble x = otherwise(4, 2);
        x.mix(3, 3);
        due("26 otherwise ahead of the one without a DIP", x.looked(), 2);
        x.mix(3, 2);
        due("26 no DIP for the one that would be otherwise", x.looked(), 2);
        x.mix(3, 1);
        due("26 no DIP ahead of the one that is otherwise", x.looked(), 1);
    }

    private static void lookedFrom() {
        LargeBubble x = alike(2);
        Due.square(x, "wind 99 m=10;wind 99 m=10;wind 72 m=10");
        // The second GO begins at MINUTE 10.
        x.book(0, false);
        x.book(1, true);
        due("26 one behind the other", x.looked(), -5);
        x.pause(1);
        due("26 from now on", x.looked(), 0);
        x.pause(11);
        due("26 from now on, at MINUTE 12", x.looked(), -5);
    }
}
