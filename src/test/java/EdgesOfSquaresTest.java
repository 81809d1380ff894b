/** Boundaries of THE TEXT, of squares and their faults, of letters, and of WIND, DRY and COIN (promises 7, 8, 11, 12). */
public final class EdgesOfSquaresTest {
    /** Ten clauses, 99 bytes. */
    private static final String TEN = "dry 1 b=1" + ";dry 1 b=1".repeat(9);

    public static void main(String[] args) {
        text();
        clauses();
        semicolons();
        blanks();
        words();
        numbers();
        expressions();
        tests();
        depths();
        endsTooEarly();
        otherSigns();
        behindFault();
        whichHolds();
        moduloTwelve();
        sizeByTen();
        filmByTen();
        lettersOfOne();
        relations();
        wind();
        dry();
        coin();
        Due.end();
    }

    private static void due(String sentence, long got, long want) {
        Due.due(sentence, got, want);
    }

    private static void isSquare(String sentence, String text) {
        due(sentence + ": " + text, Due.square(new LargeBubble(), text), 0);
    }

    private static void fault(String sentence, String text, int place) {
        due(sentence + ": " + text, Due.square(new LargeBubble(), text), -10 - place);
    }

    private static LargeBubble fed(int n) {
        LargeBubble x = new LargeBubble();
        for (int i = 0; i < n; i++) x.feed('1');
        return x;
    }

    private static void text() {
        Edge.is("7 a sign: 0", 1, new LargeBubble(), x -> x.feed(0));
        Edge.is("7 a sign: 127", 1, new LargeBubble(), x -> x.feed(127));
        Edge.is("7 behind THE TEXT's: how many it has", 2, fed(1), x -> x.feed('b'));
        Edge.is("7 the last of 100", 100, fed(99), x -> x.feed('b'));
        Edge.is("7 THE TEXT has 100, counted", 100, fed(100), x -> x.count(4));
        isSquare("8 a square of 100 bytes", "dry 10" + TEN.substring(5));
        fault("8 100 bytes that end too early", TEN + "|", 100);
        fault("8 100 bytes with the fault at the last", TEN + "x", 99);
        LargeBubble x = fed(100);
        x.square();
        due("7 THE TEXT is empty behind a fault, and takes a sign", x.feed('b'), 1);
    }

    private static void clauses() {
        fault("8 CLAUSES, 1 to 10: none, an empty TEXT", "", 0);
        isSquare("8 CLAUSES, 1 to 10: one", "wind 1 b=1");
        isSquare("8 CLAUSES, 1 to 10: ten", TEN);
        fault("8 CLAUSES, 1 to 10: none begins with ten and one more ;", TEN + ";", 99);
        LargeBubble x = Due.with(0, 0, 9, 20);
        Due.square(x, "coin 1 b=0" + ";dry 1 b=0".repeat(7) + ";dry 9 b=0");
        due("8 the ninth of nine clauses counts", x.would(0, 1), 2500 / 21 / (1 + 7 + 9));
        LargeBubble y = Due.with(0, 0, 9, 20);
        Due.square(y, "dry 1 b=0;".repeat(9) + "dry 8 b=0");
        due("8 the tenth of ten clauses counts", y.would(0, 1), 2500 / 21 / (1 + 9 + 8));
    }

    private static void semicolons() {
        fault("8 with ; between: not ahead", ";dry 1 b=1", 0);
        fault("8 with ; between: not behind", "dry 1 b=1;", 10);
        fault("8 with ; between: not two", "dry 1 b=1;;dry 1 b=1", 10);
        fault("8 with ; between: not without", "dry 1 b=1dry 1 b=1", 9);
        fault("8 with ; between: no blank behind ;", "dry 1 b=1; dry 1 b=1", 10);
        fault("8 with ; between: not within (", "dry 1 (b=1;dry 1 b=1)", 10);
    }

    private static void blanks() {
        fault("8 one blank ahead of each part: n without", "dry1 b=1", 3);
        fault("8 one blank ahead of each part: E without", "dry 1b=1", 5);
        fault("8 one blank ahead of each part: n with two", "dry  1 b=1", 4);
        fault("8 one blank ahead of each part: E with two", "dry 1  b=1", 6);
        fault("8 one blank ahead of each part: none ahead of the word", " dry 1 b=1", 0);
        fault("8 one blank ahead of each part: none behind E", "dry 1 b=1 ", 9);
        fault("8 one blank ahead of each part: none in a TEST", "dry 1 b =1", 7);
        fault("8 one blank ahead of each part: none in E", "dry 1 b=1 |b=1", 9);
        fault("8 one blank: not another sign", "dry\t1 b=1", 3);
    }

    private static void words() {
        isSquare("8 wind n E", "wind 1 b=1");
        isSquare("8 dry n E", "dry 1 b=1");
        isSquare("8 coin n E", "coin 1 b=1");
        fault("8 no other word", "rain 1 b=1", 0);
        fault("8 no large signs", "Wind 1 b=1", 0);
        fault("8 no word cut off", "win 1 b=1", 3);
        fault("8 no word cut off", "dr 1 b=1", 2);
        fault("8 no word cut off", "coi 1 b=1", 3);
        fault("8 no word behind its first sign", "w 1 b=1", 1);
        fault("8 no word but a blank", " 1 b=1", 0);
        fault("8 no word with more", "drys 1 b=1", 3);
    }

    private static void numbers() {
        isSquare("8 n 1 digit", "wind 0 b=1");
        isSquare("8 n 2 digits", "wind 99 b=1");
        isSquare("8 n 2 digits, the first 0", "wind 00 b=1");
        fault("8 n 1 or 2 digits: none", "wind b=1", 5);
        fault("8 n 1 or 2 digits: three", "wind 100 b=1", 7);
        fault("8 n has no sign", "wind -1 b=1", 5);
        fault("8 n: the sign ahead of 0 is no digit", "wind / b=1", 5);
        fault("8 n: the sign behind 9 is no digit", "wind : b=1", 5);
        fault("8 n: the second, ahead of 0", "wind 1/ b=1", 6);
        fault("8 n: the second, behind 9", "wind 1: b=1", 6);
        isSquare("8 a number of 1 digit", "wind 1 b=9");
        isSquare("8 a number of 2 digits", "wind 1 b=99");
        fault("8 a number (1 or 2 digits): none", "wind 1 b=", 9);
        fault("8 a number (1 or 2 digits): none, then more", "wind 1 b=|b=1", 9);
        fault("8 a number (1 or 2 digits): three", "wind 1 b=100", 11);
    }

    private static void expressions() {
        isSquare("8 E: T|E", "dry 1 b=1|b=1|b=1");
        isSquare("8 T: F&T", "dry 1 b=1&b=1&b=1");
        isSquare("8 F: !F", "dry 1 !b=1");
        isSquare("8 F: (E)", "dry 1 (b=1|b=1&b=1)");
        fault("8 E is not empty", "dry 1 ", 6);
        fault("8 E is not empty ahead of ;", "dry 1 ;dry 1 b=1", 6);
        fault("8 T|E: nothing ahead", "dry 1 |b=1", 6);
        fault("8 T|E: nothing behind", "dry 1 b=1|", 10);
        fault("8 F&T: nothing ahead", "dry 1 &b=1", 6);
        fault("8 F&T: nothing behind", "dry 1 b=1&", 10);
        fault("8 F&T: not &&", "dry 1 b=1&&b=1", 10);
        fault("8 F: ! with nothing", "dry 1 !", 7);
        fault("8 F: ! behind a TEST", "dry 1 b=1!", 9);
        fault("8 F: () with nothing", "dry 1 ()", 7);
        fault("8 F: ( without )", "dry 1 (b=1", 10);
        fault("8 F: ) without (", "dry 1 b=1)", 9);
        fault("8 F: one ) too many", "dry 1 (b=1))", 11);
        fault("8 F: a TEST behind )", "dry 1 (b=1)b=1", 11);
    }

    private static void tests() {
        for (char letter : "bkvmsf".toCharArray()) isSquare("8 a letter", "dry 1 " + letter + "=1");
        for (char letter : "aBcjluwxegnrt".toCharArray()) fault("8 no letter", "dry 1 " + letter + "=1", 6);
        for (char letter : "<=>0".toCharArray()) fault("8 no letter, but what comes behind one", "dry 1 " + letter + "1", 6);
        for (char relation : "<=>".toCharArray()) isSquare("8 < or = or >", "dry 1 b" + relation + "1");
        for (char relation : ";?!1".toCharArray()) fault("8 not < or = or >", "dry 1 b" + relation + "1", 7);
        fault("8 not <=", "dry 1 b<=1", 8);
        fault("8 not ==", "dry 1 b==1", 8);
        fault("8 a letter alone", "dry 1 b", 7);
        fault("8 a letter and a relation alone", "dry 1 b<", 8);
    }

    private static void depths() {
        isSquare("8 a ( within 3 others", "dry 1 ((((b=1))))");
        fault("8 a ( within 4 others is none", "dry 1 (((((b=1)))))", 10);
        isSquare("8 a ! within 3 others", "dry 1 !!!!b=1");
        fault("8 a ! within 4 others is none", "dry 1 !!!!!b=1", 10);
        isSquare("8 a ( within 3 of both", "dry 1 !(!(b=1))");
        fault("8 a ( within 4 of both is none", "dry 1 !(!((b=1)))", 10);
        fault("8 a ! within 4 of both is none", "dry 1 (!(!!b=1))", 10);
        isSquare("8 a ! is over behind its F", "dry 1 (((!b=1&!b=1|!b=1)))");
        isSquare("8 a ( is over behind its )", "dry 1 ((((b=1))))&((((b=1))))");
        fault("8 the second one within 4 others", "dry 1 (((b=1)&(!b=1|(!!b=1))))", 21);
        isSquare("8 a TEST within 4 others", "dry 1 !!((b=1|b=2&b=3))");
    }

    /** Of a square with parts of all kinds: each beginning is a square, or ends too early. */
    private static void endsTooEarly() {
        String whole = "wind 12 !(b=1|k<10)&v>3;dry 0 m=11;coin 9 s=2&f>24";
        boolean[] square = new boolean[whole.length() + 1];
        for (int length : new int[] {19, 23, 33, 34, 45, 49, 50}) square[length] = true;
        for (int length = 0; length <= whole.length(); length++) {
            String text = whole.substring(0, length);
            if (square[length]) isSquare("8 a beginning that is a square", text);
            else fault("8 the end of THE TEXT, if it ends too early", text, length);
        }
    }

    /** Of the same square: with another sign at a place, that place is the fault. */
    private static void otherSigns() {
        String whole = "wind 12 !(b=1|k<10)&v>3;dry 0 m=11;coin 9 s=2&f>24";
        for (int place = 0; place < whole.length(); place++) {
            for (char sign : new char[] {0, 'z', '#', 127}) {
                fault("8 the first byte with which none begins so", whole.substring(0, place) + sign + whole.substring(place + 1),
                        place);
            }
        }
        fault("8 the first of two", "wind 1 x=1;x", 7);
    }

    private static void behindFault() {
        LargeBubble x = new LargeBubble();
        Due.square(x, "wind");
        due("8 THE TEXT is empty behind a FAULT", x.count(4), 0);
        due("8 a FAULT makes no SQUARE", x.count(1), 0);
        due("8 a FAULT takes no number", Due.square(x, "wind 1 b=1"), 0);
        due("8 THE TEXT is empty behind a SQUARE", x.count(4), 0);
        LargeBubble y = Due.with(0, 0, 9, 20);
        Due.square(y, "coin 3 b=0;x");
        due("8 without one before, none holds behind a FAULT", y.would(0, 3), 1180);
        LargeBubble z = Due.with(0, 0, 9, 20);
        Due.square(z, "coin 3 b=0");
        Due.square(z, "coin 4 b=0;coin 5 b=0;x");
        due("8 the one that held holds behind a FAULT", z.would(0, 3), 3 * 1180);
        Due.square(z, "dry 0 b=0");
        due("8 the next has no CLAUSES of a FAULT", z.would(0, 3), 20 * 119);
        manyFaults();
    }

    private static void manyFaults() {
        LargeBubble x = Due.with(0, 0, 9, 20);
        for (int i = 0; i < 4; i++) due("8 a FAULT at the end", Due.square(x, "dry 1 " + "b=1|".repeat(23)), -10 - 98);
        due("8 a long SQUARE behind long FAULTS", Due.square(x, "coin 3 " + "b=1|".repeat(22) + "b=0"), 0);
        due("8 it holds by its last TEST", x.would(0, 3), 3 * 1180);
    }

    private static LargeBubble squares(int n) {
        LargeBubble x = Due.with(0, 0, 9, 20);
        for (int i = 1; i <= n; i++) Due.square(x, "coin " + i + " b=0");
        return x;
    }

    private static void whichHolds() {
        Edge.is("8 without a SQUARE there are no CLAUSES", 1180, squares(0), x -> x.would(0, 3));
        Edge.is("8 the newest holds", 2 * 1180, squares(2), x -> x.would(0, 3));
        Edge.is("8 the sixth: its number", 5, squares(5), x -> Due.square(x, "coin 6 b=0"));
        Edge.is("8 the sixth holds", 6 * 1180, squares(6), x -> x.would(0, 3));
        LargeBubble seven = squares(6);
        Due.square(seven, "coin 7 b=0");
        due("8 the sixth holds behind FULL", seven.would(0, 3), 6 * 1180);
        due("8 THE TEXT stays behind FULL", seven.count(4), 10);
        due("8 THE TEXT stays behind FULL, and takes more", seven.feed('b'), 11);
    }

    /** What one of pace 1 brings whose bubble is shut in minute aim, by a square. */
    private static int slow(int pause, int aim, int cord, String square) {
        LargeBubble x = Due.with(3, 4, cord, aim);
        x.pause(pause);
        due("8 " + square, Due.square(x, square), 0);
        return x.would(0, 3);
    }

    private static int none(int aim, int cord) {
        return aim * (10 * (30 * cord - aim) / (aim + 1) / 2);
    }

    private static void moduloTwelve() {
        due("12 m: MINUTE 11", slow(1, 10, 9, "coin 1 m=11"), none(10, 9));
        due("12 m: MINUTE 12 is 0", slow(2, 10, 9, "coin 1 m=0"), none(10, 9));
        due("12 m: MINUTE 12 is not 12", slow(2, 10, 9, "coin 1 m=12"), 0);
        due("12 m: MINUTE 13 is 1", slow(3, 10, 9, "coin 1 m=1"), none(10, 9));
        due("12 m: MINUTE 24 is 0", slow(14, 10, 9, "coin 1 m<1"), none(10, 9));
        LargeBubble late = Edge.at(9999);
        Due.square(late, "coin 2 m=1");
        due("12 m: MINUTE 10009 is 1", late.would(0, 3), 2 * 1180);
    }

    private static void sizeByTen() {
        due("12 s: SIZE 9 is 0", slow(0, 9, 9, "coin 1 s=0"), none(9, 9));
        due("12 s: SIZE 10 is 1", slow(0, 10, 9, "coin 1 s=1"), none(10, 9));
        due("12 s: SIZE 19 is 1 (cut)", slow(0, 19, 9, "coin 1 s=1"), none(19, 9));
        due("12 s: SIZE 20 is 2", slow(0, 20, 9, "coin 1 s=2"), none(20, 9));
        due("12 s: SIZE 0 at the first WIND", slow(0, 2, 1, "wind 1 s=0"), 2 * (10 * (30 - 2 - 2) / 3 / 2));
    }

    private static void filmByTen() {
        due("12 f: FILM 20 is 2", slow(0, 10, 1, "coin 1 f=2"), none(10, 1));
        due("12 f: FILM 19 is 1 (cut)", slow(0, 11, 1, "coin 1 f=1"), none(11, 1));
        due("12 f: FILM 9 is 0", slow(0, 20, 1, "coin 1 f=0"), 0);
        due("12 f: FILM 11 is 1", slow(0, 19, 1, "coin 1 f=1"), none(19, 1));
        due("12 f: FILM 30 at the first WIND", slow(0, 2, 1, "wind 1 f=3"), 2 * (10 * (30 - 2 - 1) / 3 / 2));
        due("12 f: FILM 29 at the second WIND", slow(0, 2, 1, "wind 1 f=2"), 2 * (10 * (30 - 2 - 1) / 3 / 2));
    }

    private static void lettersOfOne() {
        for (int b = 0; b < 5; b++) {
            LargeBubble x = new LargeBubble();
            for (int i = 0; i < 5; i++) x.blower(3, 2 * i, 9, 20);
            Due.square(x, "coin 1 b=" + b);
            for (int i = 0; i < 5; i++) due("12 b the number " + b + " of " + i, x.would(i, 3), i == b ? none(20, 9) : 0);
            Due.square(x, "coin 1 v=" + 2 * b);
            for (int i = 0; i < 5; i++) due("12 v the number v " + b + " of " + i, x.would(i, 3), i == b ? none(20, 9) : 0);
        }
        for (int kind = 0; kind < 7; kind++) {
            LargeBubble x = Due.with(kind, 0, 9, 10);
            Due.square(x, "coin 1 k=" + kind);
            due("12 k the KIND " + kind, x.would(0, 3) > 0 ? 1 : 0, 1);
            Due.square(x, "coin 1 k<" + kind + "|k>" + kind);
            due("12 k no other KIND than " + kind, x.would(0, 3), 0);
        }
    }

    private static void relations() {
        due("12 <: one less", slow(0, 20, 9, "coin 1 v<5"), none(20, 9));
        due("12 <: as many", slow(0, 20, 9, "coin 1 v<4"), 0);
        due("12 >: one more", slow(0, 20, 9, "coin 1 v>3"), none(20, 9));
        due("12 >: as many", slow(0, 20, 9, "coin 1 v>4"), 0);
        due("12 =: one less", slow(0, 20, 9, "coin 1 v=5"), 0);
        due("12 =: one more", slow(0, 20, 9, "coin 1 v=3"), 0);
        due("12 =: as many, by 2 digits", slow(0, 20, 9, "coin 1 v=04"), none(20, 9));
        due("12 |: & comes first", slow(0, 20, 9, "coin 1 v=4|v=4&v=5"), none(20, 9));
        due("12 &: & comes first", slow(0, 20, 9, "coin 1 v=5&v=4|v=4"), none(20, 9));
        due("12 !: not so", slow(0, 20, 9, "coin 1 !v=4"), 0);
        due("12 !: so", slow(0, 20, 9, "coin 1 !v=5"), none(20, 9));
        due("12 !: twice", slow(0, 20, 9, "coin 1 !!v=4"), none(20, 9));
        due("12 !: of its F alone", slow(0, 20, 9, "coin 1 !v=5|v=4&v=5"), none(20, 9));
        due("12 !: not of the whole", slow(0, 20, 9, "coin 1 !v=4&v=5"), 0);
        due("12 (: comes first", slow(0, 20, 9, "coin 1 (v=4|v=4)&v=5"), 0);
    }

    /** Of a FILM of 270, less 20 by the walk, less so much by WIND, at SIZE 20. */
    private static int windy(int less, int dryAndOne) {
        return 20 * (10 * (250 - less) / 21 / dryAndOne);
    }

    private static void wind() {
        due("12 WIND: 0 without a SQUARE", Due.with(3, 4, 9, 20).would(0, 3), windy(0, 2));
        due("12 WIND: 0 without wind clauses", slow(0, 20, 9, "coin 1 b=0"), windy(0, 2));
        due("12 WIND: 0 if no E holds", slow(0, 20, 9, "wind 9 b=1"), windy(0, 2));
        due("12 WIND: n 0", slow(0, 20, 9, "wind 0 b=0"), windy(0, 2));
        due("12 WIND: all whose E holds, together", slow(0, 20, 9, "wind 1 b=0;wind 2 b=1;wind 3 v=4"), windy(80, 2));
        due("12 WIND: n 99", slow(0, 20, 9, "wind 99 m=11"), windy(99, 2));
    }

    private static void dry() {
        due("12 DRY: 1 without a SQUARE", Due.with(3, 4, 9, 20).would(0, 1), 119 / 2);
        due("12 DRY: 1 without dry clauses", slow(0, 20, 9, "wind 0 b=0"), windy(0, 2));
        due("12 DRY: 0 if no E holds", slow(0, 20, 9, "dry 9 b=1"), windy(0, 1));
        due("12 DRY: n 0", slow(0, 20, 9, "dry 0 b=0"), windy(0, 1));
        due("12 DRY: all whose E holds, together", slow(0, 20, 9, "dry 1 b=0;dry 2 b=1;dry 3 v=4"), windy(0, 5));
        due("12 DRY: LIFE 1 by 118", slow(0, 20, 9, "dry 99 b=0;dry 19 b=0"), windy(0, 119));
        due("12 DRY: LIFE 0 by 119", slow(0, 20, 9, "dry 99 b=0;dry 20 b=0"), 0);
        due("12 DRY by how all is then, MINUTE", slow(0, 20, 9, "dry 3 m=8"), windy(0, 4));
        due("12 DRY by how all is then, SIZE", slow(0, 20, 9, "dry 3 s=2"), windy(0, 4));
        due("12 DRY by how all is then, FILM", slow(0, 20, 9, "dry 3 f=25"), windy(0, 4));
    }

    private static void coin() {
        due("12 COIN: 1 without coin clauses", slow(0, 20, 9, "wind 0 b=0"), windy(0, 2));
        due("12 COIN: 0 if no E holds", slow(0, 20, 9, "coin 9 b=1"), 0);
        due("12 COIN: n 0", slow(0, 20, 9, "coin 0 b=0"), 0);
        due("12 COIN: all whose E holds, together", slow(0, 20, 9, "coin 1 b=0;coin 2 b=1;coin 3 v=4"), 4 * windy(0, 2));
        due("12 COIN by how all is then, MINUTE", slow(0, 20, 9, "coin 3 m=8"), 3 * windy(0, 2));
        due("12 COIN by how all is then, SIZE", slow(0, 20, 9, "coin 3 s=2"), 3 * windy(0, 2));
        due("12 COIN by how all is then, FILM", slow(0, 20, 9, "coin 3 f=25"), 3 * windy(0, 2));
    }
}
