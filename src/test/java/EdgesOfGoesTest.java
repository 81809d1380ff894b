/** Boundaries of blowers, the bucket and MINUTE, of a go, of kinds, and of what brings most (promises 1 to 6, 9 to 16). */
public final class EdgesOfGoesTest {
    private static final int BLOWER = 0, BOLD = 1, CAREFUL = 2, SLOW = 3, MAD = 4, WISE = 5, TOLD = 6;

    public static void main(String[] args) {
        newObject();
        blowers();
        sets();
        mixes();
        rows();
        good();
        pauses();
        goTakes();
        film();
        half();
        minutes();
        life();
        brings();
        tornBehindBubble();
        coins();
        goStates();
        paces();
        blowerAndBold();
        careful();
        mad();
        wise();
        told();
        beyondMinutes();
        aims();
        cords();
        mixesBest();
        pausesBest();
        Due.end();
    }

    private static void due(String sentence, long got, long want) {
        Due.due(sentence, got, want);
    }

    private static void newObject() {
        Edge.is("1 Nobody", 0, new LargeBubble(), x -> x.count(0));
        Edge.is("1 no SQUARE", 0, new LargeBubble(), x -> x.count(1));
        Edge.is("1 SOAP 5 at first", 5, new LargeBubble(), x -> x.told(0));
        Edge.is("1 SUGAR 3 at first", 3, new LargeBubble(), x -> x.told(1));
        Edge.is("1 GUAR 0 at first", 0, new LargeBubble(), x -> x.told(2));
        Edge.is("1 DIPS 20 at first", 20, new LargeBubble(), x -> x.told(3));
        Edge.is("1 MINUTE 0 at first", 0, new LargeBubble(), x -> x.told(5));
        Edge.is("1 none SEEN", 0, new LargeBubble(), x -> x.count(2));
        Edge.is("1 no BOOK", 0, new LargeBubble(), x -> x.count(3));
        Edge.is("1 no TEXT", 0, new LargeBubble(), x -> x.count(4));
        Edge.is("1 no TRACE", 0, new LargeBubble(), x -> x.count(5));
        for (int tape = 0; tape < 6; tape++) {
            int which = tape;
            Edge.is("1 TAPES hold nothing (at first)", -11, new LargeBubble(), x -> x.item(which, 0, 0));
        }
    }

    private static LargeBubble many(int n) {
        LargeBubble x = new LargeBubble();
        for (int i = 0; i < n; i++) x.blower(BLOWER, 0, 1, 1);
        return x;
    }

    private static void blowers() {
        Edge.is("2 as they come: the first is 0", 0, many(0), x -> x.blower(0, 0, 1, 1));
        Edge.is("2 as they come: the last is 4", 4, many(4), x -> x.blower(0, 0, 1, 1));
        Edge.is("2 kind 6", 0, many(0), x -> x.blower(6, 0, 1, 1));
        Edge.is("2 v 0", 0, Due.with(0, 0, 2, 2), x -> x.of(0, 1));
        Edge.is("2 v 9", 9, Due.with(0, 9, 2, 2), x -> x.of(0, 1));
        Edge.is("2 CORD 1", 1, Due.with(0, 0, 1, 2), x -> x.of(0, 2));
        Edge.is("2 CORD 9", 9, Due.with(0, 0, 9, 2), x -> x.of(0, 2));
        Edge.is("2 AIM 1", 1, Due.with(0, 0, 2, 1), x -> x.of(0, 3));
        Edge.is("2 AIM 60", 60, Due.with(0, 0, 2, 60), x -> x.of(0, 3));
        Edge.is("2 COINS 0 at first", 0, Due.with(0, 0, 2, 60), x -> x.of(0, 4));
        for (int kind = 0; kind < 7; kind++) Edge.is("3 KIND", kind, Due.with(kind, 1, 2, 3), x -> x.of(0, 0));
    }

    private static LargeBubble set(int what, int n) {
        LargeBubble x = Due.with(BLOWER, 0, 5, 50);
        x.blower(BLOWER, 0, 5, 50);
        due("4 what it was", x.set(1, what, n), what == 0 ? 5 : 50);
        due("4 of one alone", x.of(0, 2 + what), what == 0 ? 5 : 50);
        return x;
    }

    private static void sets() {
        Edge.is("4 CORD becomes 1", 1, set(0, 1), x -> x.of(1, 2));
        Edge.is("4 CORD becomes 9", 9, set(0, 9), x -> x.of(1, 2));
        Edge.is("4 AIM becomes 1", 1, set(1, 1), x -> x.of(1, 3));
        Edge.is("4 AIM becomes 60", 60, set(1, 60), x -> x.of(1, 3));
        Edge.is("4 AIM, not CORD", 5, set(1, 60), x -> x.of(1, 2));
        Edge.is("4 CORD, not AIM", 50, set(0, 9), x -> x.of(1, 3));
    }

    private static void mixes() {
        int[] most = {9, 9, 9, 99};
        int[] was = {5, 3, 0, 20};
        for (int what = 0; what < 4; what++) {
            for (int n : new int[] {0, most[what]}) {
                LargeBubble x = new LargeBubble();
                due("5 what " + what + " was", x.mix(what, n), was[what]);
                for (int i = 0; i < 4; i++) due("5 what " + what + " becomes " + n, x.told(i), i == what ? n : was[i]);
            }
        }
    }

    private static void rows() {
        for (int part = 0; part < 4; part++) {
            LargeBubble x = Due.with(TOLD, 0, 5, 50);
            due("6 0 at first", x.row(0, part, 9), 0);
            due("6 n 9", x.row(0, part, 0), 9);
            due("6 n 0", x.row(0, part, 0), 0);
            x.row(0, part, 7);
            for (int i = 0; i < 4; i++) due("6 of one part alone", x.row(0, i, 0), i == part ? 7 : 0);
        }
    }

    private static int good(int soap, int sugar, int guar) {
        LargeBubble x = new LargeBubble();
        x.mix(0, soap);
        x.mix(1, sugar);
        x.mix(2, guar);
        return x.told(4);
    }

    private static void good() {
        due("9 GOOD: none off", good(5, 3, 0), 30);
        due("9 GOOD: SOAP off below", good(4, 3, 0), 26);
        due("9 GOOD: SOAP off above", good(6, 3, 0), 26);
        due("9 GOOD: SOAP 0", good(0, 3, 0), 10);
        due("9 GOOD: SOAP 9", good(9, 3, 0), 14);
        due("9 GOOD: SUGAR off below", good(5, 2, 0), 28);
        due("9 GOOD: SUGAR off above", good(5, 4, 0), 28);
        due("9 GOOD: SUGAR 0", good(5, 0, 0), 24);
        due("9 GOOD: SUGAR 9", good(5, 9, 0), 18);
        due("9 GOOD: and GUAR", good(5, 3, 9), 39);
        due("9 GOOD: 0", good(0, 8, 0), 0);
        due("9 GOOD (0 at least): below", good(0, 9, 0), 0);
        due("9 GOOD (0 at least): below, with GUAR", good(0, 9, 1), 0);
        due("9 GOOD: 1", good(0, 9, 3), 1);
    }

    private static void pauses() {
        Edge.is("10 n 0", 0, Edge.at(0), x -> x.pause(0));
        Edge.is("10 n 60", 61, Edge.at(1), x -> x.pause(60));
        Edge.is("10 up to 9999", 9999, Edge.at(9939), x -> x.pause(60));
        Edge.is("10 n 0 at 9999", 9999, Edge.at(9999), x -> x.pause(0));
    }

    /** A GO has a bubble: as it would be, and as it is then. */
    private static void would(String sentence, LargeBubble x, int size, int life, int minutes) {
        due(sentence + ": SIZE", x.would(0, 0), size);
        due(sentence + ": LIFE", x.would(0, 1), life);
        due(sentence + ": not TORN", x.would(0, 2), 0);
        due(sentence + ": BRINGS", x.would(0, 3), size * life);
        due(sentence + ": MINUTES", x.would(0, 4), minutes);
        int minute = x.told(5);
        due(sentence + ": SIZE of a GO", x.go(0), size);
        due(sentence + ": COINS of a GO", x.of(0, 4), size * life);
        due(sentence + ": MINUTE of a GO", x.told(5), minute + minutes);
    }

    /** A GO is TORN: as it would be, and as it is then. */
    private static void torn(String sentence, LargeBubble x, int minutes) {
        due(sentence + ": SIZE 0", x.would(0, 0), 0);
        due(sentence + ": LIFE 0", x.would(0, 1), 0);
        due(sentence + ": TORN", x.would(0, 2), 1);
        due(sentence + ": BRINGS 0", x.would(0, 3), 0);
        due(sentence + ": MINUTES", x.would(0, 4), minutes);
        int minute = x.told(5);
        due(sentence + ": 0 of a GO", x.go(0), 0);
        due(sentence + ": no COINS of a GO", x.of(0, 4), 0);
        due(sentence + ": MINUTE of a GO", x.told(5), minute + minutes);
    }

    private static void goTakes() {
        LargeBubble x = Edge.dips(1);
        due("11 the last DIP", x.go(0), 20);
        due("11 it takes a DIP", x.told(3), 0);
        LargeBubble y = Due.with(BLOWER, 0, 1, 60);
        due("11 TORN", y.go(0), 0);
        due("11 one that is TORN takes a DIP, too", y.told(3), 19);
        LargeBubble z = Edge.dips(0);
        due("12 DIPS do not matter", z.would(0, 0), 20);
    }

    private static LargeBubble mixed(int soap, int sugar, int kind, int cord, int aim) {
        LargeBubble x = Due.with(kind, 0, cord, aim);
        x.mix(0, soap);
        x.mix(1, sugar);
        return x;
    }

    private static void film() {
        torn("12 FILM 0 by GOOD 0", mixed(0, 9, SLOW, 9, 1), 1);
        would("12 FILM 2 by GOOD 2: the first MINUTE", mixed(0, 7, SLOW, 1, 1), 1, 10 / 2 / 2, 1);
        torn("12 FILM 2 by GOOD 2: the second", mixed(0, 7, SLOW, 1, 2), 2);
        would("12 FILM is CORD times GOOD", mixed(0, 7, SLOW, 9, 10), 10, 80 / 11 / 2, 10);
        would("12 SIZE 0 at first, AIM 1 at once", Due.with(SLOW, 0, 9, 1), 1, 2690 / 2 / 2, 1);
    }

    private static void half() {
        would("12 FILM 10 is not less than the half of SIZE 20", Due.with(BLOWER, 0, 1, 20), 20, 100 / 21 / 2, 10);
        torn("12 FILM 8 is less than the half of SIZE 22", Due.with(BLOWER, 0, 1, 22), 11);
        would("12 FILM 3 is not less than the half (cut) of SIZE 7", mixed(0, 3, SLOW, 1, 7), 7, 30 / 8 / 2, 7);
        torn("12 FILM 2 is less than the half of SIZE 8", mixed(0, 3, SLOW, 1, 8), 8);
        torn("12 TORN, also if SIZE is AIM", mixed(0, 3, SLOW, 1, 8), 8);
        LargeBubble wind = Due.with(BLOWER, 0, 1, 18);
        Due.square(wind, "wind 3 m=0");
        would("12 FILM 9 by WIND is not less than the half of SIZE 18", wind, 18, 90 / 19 / 2, 9);
        LargeBubble more = Due.with(BLOWER, 0, 1, 18);
        Due.square(more, "wind 4 m=0");
        torn("12 FILM 8 by WIND is less than the half of SIZE 18", more, 9);
        would("12 FILM 1 is not less than the half of SIZE 2", gale("69"), 2, 10 / 3 / 2, 1);
        torn("12 FILM 0 is less than the half of SIZE 2", gale("70"), 1);
        torn("12 FILM below 0", gale("99"), 1);
    }

    /** With a FILM of 270 and a WIND of 198 and some more. */
    private static LargeBubble gale(String more) {
        return clauses(BLOWER, 9, 2, "wind 99 b=0;wind 99 b=0;wind " + more + " b=0");
    }

    private static void minutes() {
        would("12 MINUTE by MINUTE (30 at most): 30", Due.with(SLOW, 0, 9, 30), 30, 2400 / 31 / 2, 30);
        torn("12 Behind 30 MINUTES it is over, and TORN", Due.with(SLOW, 0, 9, 31), 30);
        would("12 60 in 30 MINUTES", Due.with(BLOWER, 0, 9, 60), 60, 2100 / 61 / 2, 30);
        torn("12 61 in none", Due.with(BOLD, 1, 9, 60), 30);
    }

    private static LargeBubble clauses(int kind, int cord, int aim, String square) {
        LargeBubble x = Due.with(kind, 0, cord, aim);
        Due.square(x, square);
        return x;
    }

    private static void life() {
        would("12 LIFE is cut by SIZE and 1", clauses(SLOW, 1, 10, "dry 0 b=0"), 10, 200 / 11, 10);
        would("12 LIFE is cut by DRY and 1", clauses(SLOW, 1, 10, "dry 3 b=0"), 10, 200 / 11 / 4, 10);
        would("12 LIFE by DRY 0", clauses(SLOW, 9, 1, "dry 0 b=0"), 1, 2690 / 2, 1);
        would("12 LIFE 1", clauses(SLOW, 1, 10, "dry 17 b=0"), 10, 1, 10);
        would("12 LIFE 0 is not TORN", clauses(SLOW, 1, 10, "dry 18 b=0"), 10, 0, 10);
    }

    private static void brings() {
        LargeBubble below = clauses(BLOWER, 9, 20, "coin 84 b=0;dry 1 b=0");
        due("12 BRINGS SIZE times LIFE times COIN", below.would(0, 3), 84 * 20 * 59);
        LargeBubble above = clauses(BLOWER, 9, 20, "coin 85 b=0;dry 1 b=0");
        due("12 BRINGS 99999 at most", above.would(0, 3), 99999);
        LargeBubble far = clauses(BLOWER, 9, 20, "dry 0 b=0;coin 99 b=0" + ";coin 99 b=0".repeat(6));
        due("12 BRINGS 99999 at most, far above", far.would(0, 3), 99999);
        due("12 COINS are so much more", far.go(0) + far.of(0, 4), 20 + 99999);
    }

    private static void tornBehindBubble() {
        LargeBubble x = Due.with(BLOWER, 0, 9, 20);
        x.blower(BLOWER, 0, 1, 60);
        for (int what = 0; what < 4; what++) {
            x.would(0, what);
            due("12 TORN has SIZE, LIFE 0, and BRINGS 0, also behind a BUBBLE", x.would(1, what), what == 2 ? 1 : 0);
            x.would(1, what);
            due("12 a BUBBLE is not TORN, also behind one that is", x.would(0, 2), 0);
        }
    }

    private static LargeBubble rich() {
        LargeBubble x = clauses(BLOWER, 9, 20, "coin 99 b=0;dry 0 b=0");
        for (int i = 0; i < 10; i++) x.go(0);
        return x;
    }

    private static void coins() {
        Edge.is("11 COINS: ten times 99999", 999990, rich(), x -> x.of(0, 4));
        LargeBubble x = rich();
        x.set(0, 1, 1);
        x.mix(0, 1);
        x.mix(1, 9);
        // GOOD is 2, so FILM is 18 at first and 16 at SIZE 2, which is 160 by 3 by 14.
        Due.square(x, "dry 13 b=0");
        due("11 COINS: six more", x.would(0, 3), 6);
        x.go(0);
        due("11 COINS below 999999", x.of(0, 4), 999996);
        due("11 SIZE, as COINS grow no more", x.go(0), 2);
        due("11 COINS (999999 at most)", x.of(0, 4), 999999);
        x.go(0);
        due("11 COINS stay 999999", x.of(0, 4), 999999);
    }

    private static void goStates() {
        Edge.is("11 MINUTE 9900 is not above 9900", 20, Edge.at(9900), x -> x.go(0));
        LargeBubble x = Edge.at(9900);
        x.go(0);
        due("11 then MINUTE is 9910", x.told(5), 9910);
        due("11 then it is above", x.go(0), -3);
        LargeBubble torn = Edge.at(9900);
        torn.set(0, 0, 1);
        torn.set(0, 1, 60);
        due("11 TORN from MINUTE 9900", torn.go(0), 0);
        due("11 TORN then MINUTE is 9911", torn.told(5), 9911);
    }

    private static void paces() {
        would("12 PACE of BLOWER: 2", Due.with(BLOWER, 0, 9, 2), 2, 2680 / 3 / 2, 1);
        would("12 PACE of BOLD: 2", Due.with(BOLD, 0, 9, 2), 2, 2680 / 3 / 2, 1);
        would("12 PACE of CAREFUL: 2", Due.with(CAREFUL, 0, 9, 2), 2, 2680 / 3 / 2, 1);
        would("12 PACE of SLOW: 1", Due.with(SLOW, 0, 9, 2), 2, 2680 / 3 / 2, 2);
        would("12 PACE of MAD: 3", Due.with(MAD, 0, 9, 2), 3, 2670 / 4 / 2, 1);
        would("12 PACE of MAD: 3 from SIZE 18, which is below 20", Due.with(MAD, 0, 9, 19), 21, 2490 / 22 / 2, 7);
        would("12 PACE of MAD: 2 from SIZE 21", Due.with(MAD, 0, 9, 22), 23, 2470 / 24 / 2, 8);
        would("12 PACE of WISE: 2", Due.with(WISE, 0, 9, 2), 2, 2680 / 3 / 2, 1);
        would("12 PACE of TOLD: 1", Due.with(TOLD, 0, 9, 2), 2, 2680 / 3 / 2, 2);
    }

    private static void blowerAndBold() {
        would("12 BLOWER: SIZE is AIM", Due.with(BLOWER, 9, 9, 10), 10, 2600 / 11 / 2, 5);
        would("12 BLOWER: SIZE is more than AIM", Due.with(BLOWER, 9, 9, 9), 10, 2600 / 11 / 2, 5);
        would("12 BLOWER: SIZE is less than AIM", Due.with(BLOWER, 9, 9, 11), 12, 2580 / 13 / 2, 6);
        would("12 SLOW: SIZE is AIM", Due.with(SLOW, 9, 9, 10), 10, 2600 / 11 / 2, 10);
        would("12 BOLD: SIZE is AIM and v", Due.with(BOLD, 2, 9, 10), 12, 2580 / 13 / 2, 6);
        would("12 BOLD: SIZE is less than AIM and v", Due.with(BOLD, 3, 9, 10), 14, 2560 / 15 / 2, 7);
        would("12 BOLD: v 0", Due.with(BOLD, 0, 9, 10), 10, 2600 / 11 / 2, 5);
        would("12 BOLD: v 9", Due.with(BOLD, 9, 9, 1), 10, 2600 / 11 / 2, 5);
        would("12 BOLD: FILM does not matter", Due.with(BOLD, 9, 1, 11), 20, 100 / 21 / 2, 10);
    }

    private static void careful() {
        would("12 CAREFUL: FILM 16 is SIZE 14 and v 2", Due.with(CAREFUL, 2, 1, 60), 14, 160 / 15 / 2, 7);
        would("12 CAREFUL: FILM 16 is more than SIZE 14 and v 1", Due.with(CAREFUL, 1, 1, 60), 16, 140 / 17 / 2, 8);
        would("12 CAREFUL: FILM is less than SIZE and v 3", Due.with(CAREFUL, 3, 1, 60), 14, 160 / 15 / 2, 7);
        would("12 CAREFUL: SIZE is AIM", Due.with(CAREFUL, 0, 9, 10), 10, 2600 / 11 / 2, 5);
        torn("12 CAREFUL: TORN comes ahead of SHUTS", clauses(CAREFUL, 1, 60, "wind 13 m=5"), 6);
        would("12 CAREFUL: not TORN by one less", clauses(CAREFUL, 1, 60, "wind 12 m=5"), 12, 60 / 13 / 2, 6);
    }

    private static void mad() {
        would("12 MAD: as BOLD, SIZE is AIM and v", Due.with(MAD, 2, 9, 10), 12, 2580 / 13 / 2, 4);
        would("12 MAD: as BOLD, SIZE is less than AIM and v", Due.with(MAD, 3, 9, 10), 15, 2550 / 16 / 2, 5);
        would("12 MAD: WIND 5 is not above 5", clauses(MAD, 9, 12, "wind 5 m=3"), 12, 2530 / 13 / 2, 4);
        would("12 MAD: never while WIND is above 5", clauses(MAD, 9, 12, "wind 6 m=3"), 15, 2490 / 16 / 2, 5);
        would("12 MAD: WIND of this step", clauses(MAD, 9, 12, "wind 9 m=2|m=4"), 12, 2490 / 13 / 2, 4);
        torn("12 MAD: never, and so TORN", clauses(MAD, 9, 12, "wind 6 b=0"), 29);
    }

    private static void wise() {
        would("12 WISE: WIND 0 from SIZE 10 on", Due.with(WISE, 0, 9, 60), 10, 2600 / 11 / 2, 5);
        would("12 WISE: WIND 0 at SIZE 8 is not enough", clauses(WISE, 9, 60, "wind 1 m=4"), 12, 2570 / 13 / 2, 6);
        would("12 WISE: WIND of this step", clauses(WISE, 9, 60, "wind 1 m<4|m=5"), 10, 2560 / 11 / 2, 5);
        would("12 WISE: as CAREFUL by AIM", Due.with(WISE, 0, 9, 6), 6, 2640 / 7 / 2, 3);
        would("12 WISE: as CAREFUL by FILM", clauses(WISE, 1, 60, "wind 1 b=0"), 12, 120 / 13 / 2, 6);
        would("12 WISE: WIND 1 is not 0", clauses(WISE, 9, 40, "wind 1 b=0"), 40, 2100 / 41 / 2, 20);
    }

    private static LargeBubble told(int part, int n, int aim, int pause) {
        LargeBubble x = Due.with(TOLD, 9, 9, aim);
        for (int i = 0; i < 4; i++) x.row(0, i, 9);
        x.row(0, part, n);
        x.pause(pause);
        return x;
    }

    private static void told() {
        would("12 TOLD: AIM, as ROW is 0 at first", Due.with(TOLD, 9, 9, 8), 8, 2620 / 9 / 2, 8);
        int[] sizes = {8, 5, 6, 7};
        int[] later = {8, 9, 10, 11};
        for (int part = 0; part < 4; part++) {
            int size = sizes[part];
            would("12 TOLD: ROW at MINUTE modulo 4", told(part, 0, 5, 0), size, 10 * (270 - size) / (size + 1) / 2, size);
            size = later[part];
            would("12 TOLD: AIM and ROW", told(part, 3, 5, 4), size, 10 * (270 - size) / (size + 1) / 2, size);
        }
        would("12 TOLD: MINUTE 9 modulo 4 is 1", told(1, 3, 5, 1), 8, 2620 / 9 / 2, 8);
        would("12 TOLD: SIZE is less than AIM and ROW", told(1, 4, 5, 1), 12, 2580 / 13 / 2, 12);
    }

    private static void beyondMinutes() {
        LargeBubble x = Edge.at(9999);
        due("12 MINUTES also beyond 9999", x.would(0, 0), 20);
        Due.square(x, "coin 2 m=1");
        due("12 MINUTE 10009 modulo 12", x.would(0, 3), 2 * 1180);
        due("16 n MINUTES from now, beyond 9999", x.when(0, 1), 2 * 1180);
        due("17 DAY, beyond 9999", x.day(20, 11), 9999 + 200);
        x.book(0, false);
        x.book(0, true);
        due("26 a BOOK, beyond 9999", x.looked(), 1);
    }

    private static void aims() {
        Edge.is("13 the AIM: 1", 1, clauses(SLOW, 9, 30, "coin 1 m=1&s=0"), x -> x.aim(0, 0));
        Edge.is("13 the AIM: 1, how much", 1345 / 2, clauses(SLOW, 9, 30, "coin 1 m=1&s=0"), x -> x.aim(0, 1));
        Edge.is("13 the AIM: 60", 60, clauses(MAD, 9, 30, "coin 1 s=6"), x -> x.aim(0, 0));
        Edge.is("13 the AIM: 60, how much", 61 * (2090 / 62 / 2), clauses(MAD, 9, 30, "coin 1 s=6"), x -> x.aim(0, 1));
        Edge.is("13 of several the least", 59, clauses(BLOWER, 9, 30, "coin 1 s=6"), x -> x.aim(0, 0));
        Edge.is("13 of several the least: all 0", 1, clauses(BLOWER, 9, 30, "coin 0 b=0"), x -> x.aim(0, 0));
        Edge.is("13 all 0: how much", 0, clauses(BLOWER, 9, 30, "coin 0 b=0"), x -> x.aim(0, 1));
        Edge.is("13 in place of its own", 59, clauses(BLOWER, 9, 1, "coin 1 s=6"), x -> x.aim(0, 0));
        due("13 DIPS do not matter", Edge.dips(0).aim(0, 1), Edge.dips(1).aim(0, 1));
    }

    private static void cords() {
        Edge.is("14 DIPS do not matter", 1180, Edge.dips(0), x -> x.cord(0, 1));
        Edge.is("14 the CORD: 9", 9, Due.with(BLOWER, 0, 3, 20), x -> x.cord(0, 0));
        Edge.is("14 the CORD: 9, how much", 1180, Due.with(BLOWER, 0, 3, 20), x -> x.cord(0, 1));
        Edge.is("14 the CORD: 1", 1, clauses(BLOWER, 3, 20, "coin 1 f=1"), x -> x.cord(0, 0));
        Edge.is("14 the CORD: 1, how much", 40, clauses(BLOWER, 3, 20, "coin 1 f=1"), x -> x.cord(0, 1));
        Edge.is("14 of several the least: all 0", 1, clauses(BLOWER, 3, 20, "coin 0 b=0"), x -> x.cord(0, 0));
        Edge.is("14 all 0: how much", 0, clauses(BLOWER, 3, 20, "coin 0 b=0"), x -> x.cord(0, 1));
        // By CORD 8 it has LIFE 1, and by CORD 9 as well.
        Edge.is("14 of several the least", 8, clauses(BLOWER, 3, 20, "dry 99 b=0;dry 4 b=0"), x -> x.cord(0, 0));
    }

    private static void mixesBest() {
        Edge.is("15 MIX: 5 and 3", 53, mixed(0, 0, BLOWER, 9, 20), x -> x.best(0, 0));
        Edge.is("15 MIX: how much", 1180, mixed(0, 0, BLOWER, 9, 20), x -> x.best(0, 1));
        Edge.is("15 of several the first: all 0", 0, clauses(BLOWER, 9, 20, "coin 0 b=0"), x -> x.best(0, 0));
        Edge.is("15 all 0: how much", 0, clauses(BLOWER, 9, 20, "coin 0 b=0"), x -> x.best(0, 1));
        // With GUAR 9, none but SOAP 0, SUGAR 9 (GOOD 7) has so little FILM.
        LargeBubble least = clauses(SLOW, 9, 1, "coin 1 f<7");
        least.mix(2, 9);
        due("15 MIX: SUGAR 9", least.best(0, 0), 9);
        due("15 MIX: SUGAR 9, how much", least.best(0, 1), 620 / 2 / 2);
        Edge.is("15 of several the first by SOAP", 33, clauses(BLOWER, 3, 20, "coin 1 f<5"), x -> x.best(0, 0));
        // GOOD 28 alone has a FILM of 251 at SIZE 1: by SOAP 5, and SUGAR 2 or 4.
        Edge.is("15 of several the first by SUGAR, then", 52, clauses(SLOW, 9, 1, "coin 1 f=25"), x -> x.best(0, 0));
        Edge.is("15 DIPS do not matter", 1180, Edge.dips(0), x -> x.best(0, 1));
        Edge.is("15 in place of THE BUCKET's", 53, mixed(9, 9, BLOWER, 1, 20), x -> x.best(0, 0));
    }

    private static void pausesBest() {
        Edge.is("16 PAUSE: 0", 0, clauses(BLOWER, 9, 20, "coin 2 m=10"), x -> x.when(0, 0));
        Edge.is("16 PAUSE: 11", 11, clauses(BLOWER, 9, 20, "coin 2 m=9"), x -> x.when(0, 0));
        Edge.is("16 PAUSE: how much", 2360, clauses(BLOWER, 9, 20, "coin 2 m=9"), x -> x.when(0, 1));
        Edge.is("16 of several the least", 0, Due.with(BLOWER, 0, 9, 20), x -> x.when(0, 0));
        Edge.is("16 of several the least: all 0", 0, clauses(BLOWER, 9, 20, "coin 0 b=0"), x -> x.when(0, 0));
        Edge.is("16 all 0: how much", 0, clauses(BLOWER, 9, 20, "coin 0 b=0"), x -> x.when(0, 1));
        Edge.is("16 DIPS do not matter", 1180, Edge.dips(0), x -> x.when(0, 1));
    }
}
