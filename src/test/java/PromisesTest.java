/** Each promise of the document with answers that were told by hand: ordinary inputs, edges, refusals. */
public final class PromisesTest {
    private static final int NONE = WhipCrack.NONE, UNKNOWN = WhipCrack.UNKNOWN, OUTSIDE = WhipCrack.OUTSIDE;
    private static final int NOT = WhipCrack.NOT, FULL = WhipCrack.FULL;
    private static final int LEAST = Integer.MIN_VALUE, MOST = Integer.MAX_VALUE;
    private static final Check check = new Check("PromisesTest");

    public static void main(String[] args) {
        newObject();
        feed();
        plaitTexts();
        plaitFaults();
        plaitState();
        wayTexts();
        wayFaults();
        piece();
        law();
        give();
        count();
        throwOfOnePiece();
        throwOfTwoPieces();
        throwRefusals();
        loop();
        cracks();
        kinds();
        turns();
        put();
        leastHand();
        loudest();
        aim();
        alone();
        bestAim();
        close();
        rhythm();
        crackOn();
        evening();
        hides();
        film();
        images();
        check.end();
    }

    private static void due(String call, long got, long want) {
        check.due(call, got, want);
    }

    /** A row of answers against what is due, as one text each. */
    private static void dues(String calls, long[] got, long... want) {
        due(calls + " (how many)", got.length, want.length);
        for (int i = 0; i < Math.min(got.length, want.length); i++) {
            due(calls + " [" + i + "]", got[i], want[i]);
        }
    }

    private static long[] counts(WhipCrack w) {
        long[] all = new long[10];
        for (int i = 0; i < 10; i++) {
            all[i] = w.count(i);
        }
        return all;
    }

    private static long[] pieces(WhipCrack w, int what) {
        long[] all = new long[w.count(0)];
        for (int i = 0; i < all.length; i++) {
            all[i] = w.piece(i, what);
        }
        return all;
    }

    private static long[] xs(WhipCrack w, int k) {
        long[] all = new long[w.count(2) + 1];
        for (int t = 0; t < all.length; t++) {
            all[t] = w.joint(k, t, 0);
        }
        return all;
    }

    private static long[] ys(WhipCrack w, int k) {
        long[] all = new long[w.count(2) + 1];
        for (int t = 0; t < all.length; t++) {
            all[t] = w.joint(k, t, 1);
        }
        return all;
    }

    /** One PIECE of one STRAND of silk (WEIGHT 1), no FALL; a WAY. */
    private static WhipCrack light(String way, int air) {
        WhipCrack w = new WhipCrack();
        Check.plait(w, "piece 1 strands 1 stuff 2;");
        Check.way(w, way);
        w.law(0, air);
        w.law(1, 0);
        return w;
    }

    // ---------------------------------------------------------------- 1, 2

    private static void newObject() {
        WhipCrack w = new WhipCrack();
        dues("1 count", counts(w), 4, 50, 1, 1, 0, 20, 0, 0, 0, 100);
        dues("1 STRANDS", pieces(w, 0), 8, 6, 4, 2);
        dues("1 STUFF", pieces(w, 1), 0, 0, 0, 0);
        dues("1 WEIGHT", pieces(w, 2), 32, 24, 16, 8);
        dues("1 BENDS", pieces(w, 3), 192, 144, 96, 48);
        dues("1 WEAR", pieces(w, 4), 0, 0, 0, 0);
        dues("1 x of THE HAND", xs(w, 0), 0, 0);
        dues("1 y of THE HAND", ys(w, 0), 0, 0);
        dues("1 y of THE TIP", ys(w, 4), 0, -3);
        due("1 fault", w.fault(), NONE);
        due("1 AIR", w.law(0, 0), 2);
        due("1 FALL", w.law(1, 0), 3);
        due("1 ROUNDS", w.law(2, 1), 3);
        due("1 PACE", w.law(3, 10), 150);
        due("1 LASTS", w.law(4, 1), 5000);
        due("1 goBack(0)", w.goBack(0), NOT);
        due("1 goBack(1)", w.goBack(1), NOT);
        due("1 told", w.told(0), NOT);
        due("1 cut", w.cut(), 0);
    }

    private static void feed() {
        WhipCrack w = new WhipCrack();
        due("2 feed(0)", w.feed(0, 0), OUTSIDE);
        due("2 feed(9)", w.feed(9, 0), OUTSIDE);
        due("2 feed(-1)", w.feed(-1, 0), OUTSIDE);
        due("2 feed(least)", w.feed(LEAST, 0), OUTSIDE);
        due("2 feed(most)", w.feed(MOST, 0), OUTSIDE);
        due("2 nothing came", w.count(4), 0);
        due("2 the highest of them first, higher ones of the long not at all",
            w.feed(7, 0xFF00000000000000L | Check.packed("hold 2;", 0, 7)), 7);
        due("2 read as it came", w.way(), 2);
        for (int i = 1; i <= 19; i++) {
            due("2 eight more", w.feed(8, 0x2020202020202020L), 8 * i);
        }
        due("2 to 159", w.feed(7, 0x20202020202020L), 159);
        due("2 one too many", w.feed(2, 0x2020L), FULL);
        due("2 eight when full", w.feed(8, 0), FULL);
        due("2 nothing came", w.count(4), 159);
        due("2 OUTSIDE ahead of FULL", w.feed(9, 0), OUTSIDE);
        due("2 the last one", w.feed(1, 0x20L), 160);
        due("2 full", w.feed(1, 0x20L), FULL);
        due("2 blanks alone are no plait", w.plait(), -11);
        due("2 at the end", w.fault(), 160);
        due("2 empty then", w.count(4), 0);
        Check.feed(w, "hold 3");
        due("2 a byte behind others", w.feed(1, 59), 7);
        due("2 way", w.way(), 3);
    }

    // ---------------------------------------------------------------- 3 to 6

    private static void plaitFine(String text, int many) {
        WhipCrack w = new WhipCrack();
        due("3 '" + text + "'", Check.plait(w, text), many);
        due("5 '" + text + "'", w.fault(), NONE);
    }

    private static void plaitFault(String text, int number, int at) {
        WhipCrack w = new WhipCrack();
        due("3 '" + text + "'", Check.plait(w, text), -10 - number);
        due("5 '" + text + "'", w.fault(), at);
        dues("3 as it was behind '" + text + "'", counts(w), 4, 50, 1, 1, 0, 20, 0, 0, 0, 100);
    }

    private static void plaitTexts() {
        plaitFine("piece 1 strands 1;", 1);
        plaitFine("piece1strands1;", 1);
        plaitFine("  piece  12  strands  16  stuff  3  ;  ", 12);
        plaitFine("piece 1 strands 16stuff0;length 20;", 1);
        plaitFine("length 200;piece 6 strands 4;piece 6 strands 4 stuff 1;", 12);
        plaitFine("piece 001 strands 016 stuff 003;length 050;", 1);
        plaitFine("piece 1 strands 5;length 20;piece 1 strands 5;piece 1 strands 4;", 3);

        WhipCrack w = new WhipCrack();
        due("3 how many", Check.plait(w, "piece 2 strands 9 stuff 3;length 77;piece 1 strands 5;piece 1 strands 5 stuff 1;"), 4);
        dues("3 STRANDS", pieces(w, 0), 9, 9, 5, 5);
        dues("3 STUFF", pieces(w, 1), 3, 3, 0, 1);
        due("3 LENGTH", w.count(1), 77);
        due("3 rest", w.joint(4, 0, 0), 308);
    }

    private static void plaitFaults() {
        plaitFault("", 1, 0);
        plaitFault("   ", 1, 3);
        plaitFault("length 50;", 1, 10);
        plaitFault("length 50; ", 1, 11);
        plaitFault("piece 1 strands 5", 1, 17);
        plaitFault("piece 1 strands 5  ", 1, 19);
        plaitFault("piece 1 strands", 1, 15);
        plaitFault("piece", 1, 5);
        plaitFault("pieces 1 strands 5;", 1, 0);
        plaitFault("piec", 1, 0);
        plaitFault("piece strands 5;", 1, 6);
        plaitFault("piece 1 2 strands 5;", 1, 8);
        plaitFault("piece 1 strandsstuff 5;", 1, 8);
        plaitFault("piece 1 strands 5 stuf 1;", 1, 18);
        plaitFault("piece 1 strands 5 stuff;", 1, 23);
        plaitFault("piece 1 strands 5 stuff 1 stuff 1;", 1, 26);
        plaitFault("piece 1 strands 5;;", 1, 18);
        plaitFault(";", 1, 0);
        plaitFault("Piece 1 strands 5;", 1, 0);
        plaitFault("piece\t1 strands 5;", 1, 5);
        plaitFault("piece -1 strands 5;", 1, 6);
        plaitFault("piece 1 strands 5; hold 1;", 1, 19);
        plaitFault("length piece 1 strands 5;", 1, 7);
        plaitFault("length 50 piece 1 strands 5;", 1, 10);
        plaitFault("length 50;piece 1 length 50;", 1, 18);
        plaitFault("piece 1 strands 5;" + (char) 255, 1, 18);
        plaitFault("piece 1 strands 5;" + (char) 0, 1, 18);
        plaitFault("pie ce 1 strands 5;", 1, 0);
        plaitFault("piece 1 strands 1 6;", 1, 18);

        plaitFault("piece 0 strands 5;", 2, 6);
        plaitFault("piece 13 strands 5;", 2, 6);
        plaitFault("piece 0001 strands 5;", 2, 6);
        plaitFault("piece 1 strands 0;", 2, 16);
        plaitFault("piece 1 strands 17;", 2, 16);
        plaitFault("piece 1 strands 5 stuff 4;", 2, 24);
        plaitFault("piece 1 strands 5 stuff 0000;", 2, 24);
        plaitFault("length 19;", 2, 7);
        plaitFault("length 201;", 2, 7);
        plaitFault("length 0050;", 2, 7);
        plaitFault("length 19 strands", 2, 7);
        plaitFault("piece 99999999999999999999 strands 5;", 2, 6);

        plaitFault("piece 1 strands 5;piece 1 strands 6;", 3, 34);
        plaitFault("piece 1 strands 5;length 50;piece 1 strands 16;", 3, 44);
        plaitFault("piece 1 strands 5;piece 1 strands 17;", 2, 34);
        plaitFault("piece 1 strands 5;piece 1 strands 6", 3, 34);

        plaitFault("piece 12 strands 5;piece 1 strands 5;", 4, 25);
        plaitFault("piece 7 strands 5;piece 6 strands 6;", 4, 24);
        plaitFault("piece 12 strands 5;piece 13 strands 5;", 2, 25);
        plaitFault("piece 12 strands 5;piece 0 strands 5;", 2, 25);

        plaitFault("length 50;length 50;", 5, 10);
        plaitFault("length 50;piece 1 strands 5; length 19;", 5, 29);
        plaitFault("length 50;lengths 50;", 1, 10);
    }

    private static void plaitState() {
        WhipCrack w = new WhipCrack();
        w.crackOn();
        Check.way(w, "go 300 0 for 3;");
        w.crackOn();
        check.holds("3 it wore", w.piece(0, 4) > 0);
        long worn = w.piece(0, 4);
        due("3 a FAULT", Check.plait(w, "length 60;piece 1 strands 17;"), -12);
        due("3 the text is empty behind a FAULT too", w.count(4), 0);
        due("3 WEAR is as it was", w.piece(0, 4), worn);
        due("3 LENGTH is as it was", w.count(1), 50);
        due("5 the FAULT is told again", w.fault(), 26);
        due("3 the same again", Check.plait(w, "piece 4 strands 8;"), 4);
        due("5 none any more", w.fault(), NONE);
        dues("3 WEAR 0", pieces(w, 4), 0, 0, 0, 0);
        Check.plait(w, "length 60;piece 4 strands 8;");
        due("3 LENGTH told", w.count(1), 60);
        Check.plait(w, "piece 4 strands 8;");
        due("3 LENGTH not told: 50", w.count(1), 50);
        due("3 THE WAY stays", w.count(2), 3);
    }

    private static void wayFine(String text, int ticks, int steps) {
        WhipCrack w = new WhipCrack();
        due("4 '" + text + "'", Check.way(w, text), ticks);
        due("5 '" + text + "'", w.fault(), NONE);
        due("9 steps of '" + text + "'", w.count(3), steps);
        due("9 ticks of '" + text + "'", w.count(2), ticks);
    }

    private static void wayFault(String text, int number, int at) {
        WhipCrack w = new WhipCrack();
        due("4 '" + text + "'", Check.way(w, text), -10 - number);
        due("5 '" + text + "'", w.fault(), at);
        dues("4 as it was behind '" + text + "'", counts(w), 4, 50, 1, 1, 0, 20, 0, 0, 0, 100);
        dues("4 THE HAND as it was", xs(w, 0), 0, 0);
    }

    private static void wayTexts() {
        wayFine("hold 1;", 1, 1);
        wayFine("hold1;", 1, 1);
        wayFine(" hold 30 ; hold 30 ; ", 60, 2);
        wayFine("go 0 0 for 30;", 30, 1);
        wayFine("go-1-1for1;", 1, 1);
        wayFine("go 999-999for 02;", 2, 1);
        wayFine("go -000 -999 for 030;", 30, 1);
        wayFine("times 9(hold 1;)", 9, 9);
        wayFine("times2(hold 1;times 2 ( hold 1 ; ) hold 1;)", 8, 8);
        wayFine("times 2(times 2(times 2(hold 1;)times 3(hold 1;)))", 20, 20);
        wayFine("times 3(times 5(times 4(hold 1;)))", 60, 60);

        WhipCrack w = new WhipCrack();
        due("4 way", Check.way(w, "go 10 -7 for 3;hold 1;times 2(go -5 4 for 2;)"), 8);
        dues("4 x of THE HAND", xs(w, 0), 0, 3, 6, 10, 10, 8, 5, 3, 0);
        dues("4 y of THE HAND", ys(w, 0), 0, -2, -4, -7, -7, -5, -3, -1, 1);
        w.give(55);
        dues("8 x of THE HAND, GIVEN 55", xs(w, 0), 0, 1, 3, 5, 5, 4, 2, 1, 0);
        dues("8 y of THE HAND, GIVEN 55", ys(w, 0), 0, -1, -2, -3, -3, -2, -1, 0, 0);
        due("4 GIVEN stays", w.count(9), 55);
    }

    private static void wayFaults() {
        wayFault("", 1, 0);
        wayFault("  ", 1, 2);
        wayFault("go", 1, 2);
        wayFault("go 5", 1, 4);
        wayFault("go 5 5", 1, 6);
        wayFault("go 5 5 for", 1, 10);
        wayFault("go 5 5 for 3", 1, 12);
        wayFault("go 5 for 3;", 1, 5);
        wayFault("go 5 5 5 for 3;", 1, 7);
        wayFault("go 5 - 5 for 3;", 1, 6);
        wayFault("go -", 1, 4);
        wayFault("go --5 5 for 3;", 1, 4);
        wayFault("go -x 5 for 3;", 1, 4);
        wayFault("go 5 5 for -3;", 1, 11);
        wayFault("hold -3;", 1, 5);
        wayFault("times -2(hold 1;)", 1, 6);
        wayFault("hold 3", 1, 6);
        wayFault("hold;", 1, 4);
        wayFault("holds 3;", 1, 0);
        wayFault("hold 3;;", 1, 7);
        wayFault("hold 3;)", 1, 7);
        wayFault("times 2 hold 1;", 1, 8);
        wayFault("times 2(", 1, 8);
        wayFault("times 2()", 1, 8);
        wayFault("times 2(hold 1;", 1, 15);
        wayFault("times 2(hold 1;);", 1, 16);
        wayFault("times 2(hold 1;times 2())", 1, 23);
        wayFault("times 2(times 2(hold 1;)", 1, 24);
        wayFault("times (hold 1;)", 1, 6);
        wayFault("hold 1;piece 1 strands 1;", 1, 7);
        wayFault("go 5 times", 1, 5);

        wayFault("go 5 5 for 0;", 2, 11);
        wayFault("go 5 5 for 31;", 2, 11);
        wayFault("go 1000 5 for 3;", 2, 3);
        wayFault("go 5 -1000 for 3;", 2, 5);
        wayFault("go -0000 5 for 3;", 2, 3);
        wayFault("hold 0;", 2, 5);
        wayFault("hold 31;", 2, 5);
        wayFault("times 1(hold 1;)", 2, 6);
        wayFault("times 10(hold 1;)", 2, 6);

        wayFault("times 2(times 2(times 2(times 2(hold 1;))))", 3, 24);
        wayFault("times 2(times 2(times 2(hold 1;times", 3, 31);
        wayFault("times 2(times 2(times 2(hold times 2", 1, 29);

        wayFault("hold 30;hold 30;hold 1;", 4, 23);
        wayFault("hold 30;hold 30;hold 1; ", 4, 24);
        wayFault("times 9(times 9(times 9(hold 30;)))", 4, 35);
        wayFault("hold 30;hold 30;hold 1", 1, 22);
        wayFault("times 2(times 2(times 2(hold 7;)))hold 5;", 4, 41);
        wayFault("times 8(times 8(hold 1;))hold 1;)", 1, 32);
    }

    private static void piece() {
        WhipCrack w = new WhipCrack();
        Check.plait(w, "piece 1 strands 16;piece 1 strands 14 stuff 1;piece 1 strands 14 stuff 2;piece 1 strands 13 stuff 3;");
        dues("6 STRANDS", pieces(w, 0), 16, 14, 14, 13);
        dues("6 STUFF", pieces(w, 1), 0, 1, 2, 3);
        dues("6 WEIGHT", pieces(w, 2), 64, 70, 14, 26);
        dues("6 BENDS, 500 at most", pieces(w, 3), 384, 500, 28, 104);
        dues("6 fewer STRANDS than ahead", pieces(w, 5), 0, 1, 0, 1);
        due("6 piece(-1, 0)", w.piece(-1, 0), UNKNOWN);
        due("6 piece(4, 0)", w.piece(4, 0), UNKNOWN);
        due("6 UNKNOWN ahead of OUTSIDE", w.piece(4, 9), UNKNOWN);
        due("6 piece(0, -1)", w.piece(0, -1), OUTSIDE);
        due("6 piece(3, 6)", w.piece(3, 6), OUTSIDE);
        due("6 piece(least, 0)", w.piece(LEAST, 0), UNKNOWN);
        due("6 piece(0, most)", w.piece(0, MOST), OUTSIDE);
    }

    // ---------------------------------------------------------------- 7, 8, 9

    private static void law() {
        int[][] laws = {{2, 0, 50}, {3, 0, 50}, {3, 1, 8}, {150, 10, 2000}, {5000, 1, 30000}};
        WhipCrack w = new WhipCrack();
        for (int what = 0; what < 5; what++) {
            due("7 too little " + what, w.law(what, laws[what][1] - 1), OUTSIDE);
            due("7 too much " + what, w.law(what, laws[what][2] + 1), OUTSIDE);
            due("7 least " + what, w.law(what, laws[what][1]), laws[what][0]);
            due("7 most " + what, w.law(what, laws[what][2]), laws[what][1]);
            due("7 much too little " + what, w.law(what, LEAST), OUTSIDE);
            due("7 much too much " + what, w.law(what, MOST), OUTSIDE);
            due("7 back " + what, w.law(what, laws[what][0]), laws[what][2]);
        }
        due("7 law(-1)", w.law(-1, 10), OUTSIDE);
        due("7 law(5)", w.law(5, 10), OUTSIDE);
    }

    private static void give() {
        WhipCrack w = new WhipCrack();
        due("8 give(9)", w.give(9), OUTSIDE);
        due("8 give(201)", w.give(201), OUTSIDE);
        due("8 give(least)", w.give(LEAST), OUTSIDE);
        due("8 as it was", w.count(9), 100);
        due("8 give(10)", w.give(10), 100);
        due("8 give(200)", w.give(200), 10);
        due("8 give(15)", w.give(15), 200);
        due("8 count(9)", w.count(9), 15);
        Check.way(w, "go -999 999 for 1;");
        dues("8 x of THE HAND", xs(w, 0), 0, -149);
        dues("8 y of THE HAND", ys(w, 0), 0, 149);
    }

    private static void count() {
        WhipCrack w = new WhipCrack();
        Check.plait(w, "length 33;piece 3 strands 5;piece 2 strands 4;");
        Check.way(w, "times 3(go 1 1 for 4;hold 2;)hold 1;");
        w.lay(0, 5);
        w.lay(0, 5);
        w.lay(1, 5);
        w.film(1, 1);
        w.give(30);
        Check.feed(w, "hold");
        dues("9 count", counts(w), 5, 33, 19, 7, 4, 23, 2, 1, 1, 30);
        due("9 count(-1)", w.count(-1), OUTSIDE);
        due("9 count(10)", w.count(10), OUTSIDE);
        due("9 count(least)", w.count(LEAST), OUTSIDE);
    }

    // ---------------------------------------------------------------- 10 to 13

    private static void throwOfOnePiece() {
        // TICK 1: THE HAND at -100, JOINT 1 at 50: 150 long, 100 too much, all of it is taken from the JOINT.
        // TICK 2: it went -100, AIR takes 5 times 100 of 1000: -50. TICK 3: 250 of 1000: -50 times 750 / 1000.
        WhipCrack w = light("go -100 0 for 1;hold 2;", 5);
        dues("10 x", xs(w, 1), 50, -50, -100, -137);
        dues("10 y", ys(w, 1), 0, 0, 0, 0);
        due("11 speed(1, 1)", w.speed(1, 1), 100);
        due("11 speed(1, 2)", w.speed(1, 2), 50);
        due("11 speed(1, 3)", w.speed(1, 3), 37);
        due("11 speed(0, 1)", w.speed(0, 1), 100);
        due("11 speed(0, 2)", w.speed(0, 2), 0);
        due("12 force(1, 3)", w.force(1, 3), 1369);
        due("12 force(NONE, 2)", w.force(NONE, 2), 2500);
        w.law(0, 10);
        dues("10 AIR as much as WEIGHT: it does not go on", xs(w, 1), 50, -50, -50, -50);
        w.law(0, 9);
        dues("10 AIR just less", xs(w, 1), 50, -50, -60, -69);
        w.law(0, 0);
        dues("10 no AIR", xs(w, 1), 50, -50, -150, -150);
        w.law(0, 50);
        w.law(1, 4);
        // TICK 1: -4, and 4 times 100 / 150 back. TICK 3: -3 by what it moved, -4, and cut to 50 of 51.
        dues("10 FALL also when AIR holds it", ys(w, 1), 0, -2, -6, -12);
        dues("10 x then", xs(w, 1), 50, -50, -50, -51);
    }

    private static void throwOfTwoPieces() {
        // Both JOINTS of WEIGHT 40, BENDS 240; each step was reckoned by hand, with one round.
        WhipCrack w = new WhipCrack();
        Check.plait(w, "piece 2 strands 10;");
        Check.way(w, "go 0 40 for 1;");
        w.law(1, 0);
        w.law(2, 1);
        due("10 joint(1, 1, 0)", w.joint(1, 1, 0), 40);
        due("10 joint(1, 1, 1)", w.joint(1, 1, 1), 10);
        due("10 joint(2, 1, 0)", w.joint(2, 1, 0), 88);
        due("10 joint(2, 1, 1)", w.joint(2, 1, 1), -5);
        due("11 speed(1, 1)", w.speed(1, 1), 14);
        due("11 speed(2, 1)", w.speed(2, 1), 13);
        due("12 force(1, 1)", w.force(1, 1), 8000);
        due("12 force(2, 1)", w.force(2, 1), 6760);
        due("12 force(NONE, 1)", w.force(NONE, 1), 14760);
        // WEIGHTS 48 and 24: JOINT 2 is bent by -40 times 144 / 1000 and takes two thirds of what is too long.
        Check.plait(w, "piece 1 strands 12;piece 1 strands 6;");
        due("10 joint(1, 1, 0), unlike WEIGHTS", w.joint(1, 1, 0), 40);
        due("10 joint(1, 1, 1), unlike WEIGHTS", w.joint(1, 1, 1), 10);
        due("10 joint(2, 1, 0), unlike WEIGHTS", w.joint(2, 1, 0), 89);
        due("10 joint(2, 1, 1), unlike WEIGHTS", w.joint(2, 1, 1), -2);
    }

    private static void throwRefusals() {
        WhipCrack w = new WhipCrack();
        due("10 joint(-1, 0, 0)", w.joint(-1, 0, 0), UNKNOWN);
        due("10 joint(5, 0, 0)", w.joint(5, 0, 0), UNKNOWN);
        due("10 joint(0, -1, 0)", w.joint(0, -1, 0), UNKNOWN);
        due("10 joint(0, 2, 0)", w.joint(0, 2, 0), UNKNOWN);
        due("10 joint(0, 0, -1)", w.joint(0, 0, -1), OUTSIDE);
        due("10 joint(0, 0, 2)", w.joint(0, 0, 2), OUTSIDE);
        due("10 UNKNOWN ahead of OUTSIDE", w.joint(0, 2, 2), UNKNOWN);
        due("10 joint(most, most, most)", w.joint(MOST, MOST, MOST), UNKNOWN);
        due("11 speed(-1, 1)", w.speed(-1, 1), UNKNOWN);
        due("11 speed(5, 1)", w.speed(5, 1), UNKNOWN);
        due("11 speed(4, 0)", w.speed(4, 0), UNKNOWN);
        due("11 speed(4, 2)", w.speed(4, 2), UNKNOWN);
        due("11 speed(4, 1)", w.speed(4, 1), 3);
        due("11 speed(least, least)", w.speed(LEAST, LEAST), UNKNOWN);
        due("12 force(0, 1)", w.force(0, 1), UNKNOWN);
        due("12 force(-2, 1)", w.force(-2, 1), UNKNOWN);
        due("12 force(5, 1)", w.force(5, 1), UNKNOWN);
        due("12 force(1, 0)", w.force(1, 0), UNKNOWN);
        due("12 force(1, 2)", w.force(1, 2), UNKNOWN);
        due("12 force(NONE, 0)", w.force(NONE, 0), UNKNOWN);
        due("12 force(NONE, 2)", w.force(NONE, 2), UNKNOWN);
        due("12 force(4, 1)", w.force(4, 1), 72);
        due("12 force(NONE, 1)", w.force(NONE, 1), 720);
        due("13 loop(-1)", w.loop(-1), UNKNOWN);
        due("13 loop(2)", w.loop(2), UNKNOWN);
        due("13 loop(most)", w.loop(MOST), UNKNOWN);
    }

    /** Two PIECES folded by THE HAND: JOINT 1 stays at 50, JOINT 2 is bent from 100 to 76. */
    private static WhipCrack folded() {
        WhipCrack w = new WhipCrack();
        Check.plait(w, "piece 2 strands 10;");
        Check.way(w, "go 100 0 for 1;");
        w.law(1, 0);
        return w;
    }

    private static void loop() {
        WhipCrack w = folded();
        due("13 joint(2, 1, 0)", w.joint(2, 1, 0), 76);
        due("13 loop(0)", w.loop(0), NONE);
        due("13 loop(1)", w.loop(1), 1);
        w.give(50);
        due("13 THE HAND at JOINT 1: nothing below 0", w.loop(1), NONE);
        Check.plait(w, "piece 1 strands 10;");
        w.give(100);
        due("13 one PIECE has no LOOP", w.loop(1), NONE);
    }

    // ---------------------------------------------------------------- 14 to 18

    private static void cracks() {
        WhipCrack w = light("go -100 0 for 1;hold 2;", 5);
        due("14 PACE 150", w.crack(NONE, 0), 0);
        due("18 it does not crack", w.near(), NONE);
        due("14 no CRACK 0", w.crack(0, 0), UNKNOWN);
        w.law(3, 101);
        due("14 PACE 101", w.crack(NONE, 6), 0);
        w.law(3, 100);
        due("14 PACE 100", w.crack(NONE, 0), 1);
        dues("14 of THE TIP", crackRow(w, 0), 1, 1, 0, 6, 198, 502, 100);
        due("18 near", w.near(), 502);
        due("14 crack(1, 0)", w.crack(1, 0), UNKNOWN);
        due("14 crack(-2, 0)", w.crack(-2, 0), UNKNOWN);
        due("14 crack(least, 0)", w.crack(LEAST, 0), UNKNOWN);
        due("14 crack(0, -1)", w.crack(0, -1), OUTSIDE);
        due("14 crack(0, 7)", w.crack(0, 7), OUTSIDE);
        due("14 OUTSIDE ahead of UNKNOWN", w.crack(1, 7), OUTSIDE);
        due("14 OUTSIDE for how many, too", w.crack(NONE, 7), OUTSIDE);
        w.law(3, 40);
        due("14 fast in the TICK before: no other CRACK", w.crack(NONE, 0), 1);
        w.put(0, -50, 0);
        dues("14 THE EAR at the place", crackRow(w, 0), 1, 1, 0, 1, 100000, 0, 100);
        due("18 near", w.near(), 0);

        WhipCrack f = folded();
        f.law(3, 24);
        dues("14 of THE LOOP, ahead of THE TIP", crackRow(f, 0), 1, 2, 1, 22, 1897, 505, 24);

        WhipCrack o = new WhipCrack();
        Check.plait(o, "piece 2 strands 10;");
        Check.way(o, "go 0 40 for 1;");
        o.law(1, 0);
        o.law(2, 1);
        o.law(3, 10);
        due("14 two", o.crack(NONE, 0), 2);
        dues("14 OTHER", crackRow(o, 0), 1, 1, 2, 50, 1138, 491, 14);
        dues("14 TIP", crackRow(o, 1), 1, 2, 0, 52, 1013, 512, 13);
        due("18 the least FAR", o.near(), 491);
        o.put(0, 200, 0);
        due("18 the least FAR", o.near(), 112);
    }

    private static long[] crackRow(WhipCrack w, int i) {
        long[] all = new long[7];
        for (int what = 0; what < 7; what++) {
            all[what] = w.crack(i, what);
        }
        return all;
    }

    private static void kinds() {
        WhipCrack flat = new WhipCrack();
        due("15 FLAT", flat.kind(), 0);
        due("15 FORWARD", folded().kind(), 1);

        WhipCrack over = new WhipCrack();
        Check.plait(over, "piece 12 strands 4;");
        Check.way(over, "go 0 -700 for 1;");
        over.law(3, 2000);
        due("15 OVERHEAD", over.kind(), 2);
        check.holds("15 higher than 2 LENGTHS", over.joint(12, 1, 1) > -700 + 100);
        over.law(3, 10);
        due("15 CRACKED ahead of OVERHEAD", over.kind(), 3);

        // AIR 50 stops it dead, so each jerk is a CRACK of its own.
        WhipCrack w = light("go -100 0 for 1;hold 1;go -100 0 for 1;", 50);
        w.law(3, 100);
        due("15 two CRACKS", w.crack(NONE, 0), 2);
        due("15 2 TICKS apart: CRACKED", w.kind(), 3);
        Check.way(w, "go -100 0 for 1;hold 2;go -100 0 for 1;");
        due("15 two CRACKS", w.crack(NONE, 0), 2);
        due("15 3 TICKS apart: TWICE", w.kind(), 4);
        w.law(3, 101);
        due("15 none", w.kind(), 0);

        WhipCrack round = new WhipCrack();
        Check.plait(round, "length 20;piece 1 strands 1;");
        Check.way(round, "times 2(go 150 0 for 3;go 0 150 for 3;go -150 0 for 3;go 0 -150 for 3;)");
        round.put(1, 75, 75);
        due("16 round and round", round.turns(), 108);
        due("15 WRAPPED", round.kind(), 5);
        Check.way(round, "go 150 0 for 3;go 0 150 for 3;go -150 0 for 3;go 0 -150 for 3;");
        due("16 once round", round.turns(), 104);
        due("15 four are WRAPPED", round.kind(), 5);
        Check.way(round, "go 150 0 for 3;go 0 150 for 3;go -150 0 for 3;");
        due("16 not quite round", round.turns(), 103);
        due("15 three are not", round.kind(), 0);
        Check.way(round, "go 0 150 for 3;go 150 0 for 3;go 0 -150 for 3;go -150 0 for 3;");
        due("16 once round, back", round.turns(), 96);
        due("15 four back are WRAPPED", round.kind(), 5);
        Check.way(round, "go 0 150 for 3;go 150 0 for 3;go 0 -150 for 3;");
        due("16 not quite round, back", round.turns(), 97);
        due("15 three back are not", round.kind(), 0);
        round.law(3, 10);
        Check.way(round, "times 2(go 150 0 for 3;go 0 150 for 3;go -150 0 for 3;go 0 -150 for 3;)");
        check.holds("15 it cracks too", round.crack(NONE, 0) > 0);
        due("15 WRAPPED ahead of CRACKED", round.kind(), 5);
        Check.way(round, "times 2(go 0 150 for 3;go 150 0 for 3;go 0 -150 for 3;go -150 0 for 3;)");
        due("16 the other way round", round.turns(), 92);
        due("15 WRAPPED", round.kind(), 5);
    }

    private static void turnsAt(WhipCrack w, int x, int y, int want) {
        w.put(1, x, y);
        due("16 turns about " + x + ", " + y, w.turns(), want);
    }

    private static void turns() {
        // THE TIP goes 50, -50, -100, -137 along y = 0.
        WhipCrack w = light("go -100 0 for 1;hold 2;", 5);
        w.put(0, 0, -10);
        due("16 THE POST at first", w.turns(), 100);
        turnsAt(w, 300, 0, 100);
        turnsAt(w, 0, 0, 100);
        turnsAt(w, 0, -10, 101);
        turnsAt(w, 0, 10, 99);
        turnsAt(w, 50, 0, 100);
        turnsAt(w, -50, 0, 100);
        turnsAt(w, -50, -1, 101);
        turnsAt(w, -50, 1, 99);
        turnsAt(w, -100, -1, 101);
        turnsAt(w, 50, -1, 100);
        turnsAt(w, 50, 1, 99);
        // Down past THE POST: y 0, -2, -6, -12 at x 50, -50, -50, -51.
        w.law(0, 50);
        w.law(1, 4);
        turnsAt(w, -50, -6, 102);
        turnsAt(w, -50, -8, 102);
        turnsAt(w, -60, -6, 99);
        turnsAt(w, -60, -4, 99);
        turnsAt(w, -40, -6, 102);
        turnsAt(w, -40, -4, 102);
        turnsAt(w, -50, -2, 98);
        turnsAt(w, -50, -12, 102);
        quarters();
    }

    /** THE TIP just beside THE POST, just above and just below it. */
    private static void quarters() {
        WhipCrack w = light("hold 2;", 50);
        w.law(1, 1);
        // It falls: y 0, -1, -2 at x 50, and stays within 50 of THE HAND.
        dues("16 y", ys(w, 1), 0, -1, -2);
        dues("16 x", xs(w, 1), 50, 50, 50);
        turnsAt(w, 49, -1, 99);
        turnsAt(w, 49, 0, 99);
        turnsAt(w, 50, -1, 100);
        turnsAt(w, 51, -1, 101);
        turnsAt(w, 51, -2, 101);
        turnsAt(w, 50, -2, 100);
        Check.way(w, "go -100 0 for 1;go 0 60 for 1;hold 1;");
        w.law(1, 0);
        // THE HAND takes it to (-50, 0), then up: to (-67, 21) by the first round, to (-68, 22) at last.
        dues("16 y going up", ys(w, 1), 0, 0, 22, 22);
        dues("16 x going up", xs(w, 1), 50, -50, -68, -68);
        turnsAt(w, -69, 22, 101);
        turnsAt(w, -69, 21, 101);
        turnsAt(w, -68, 21, 100);
        turnsAt(w, -68, 22, 100);
        turnsAt(w, -67, 22, 99);
        turnsAt(w, -67, 21, 100);
    }

    private static void put() {
        WhipCrack w = light("go -100 0 for 1;", 5);
        w.law(3, 50);
        due("17 put(0, -5000, 5000)", w.put(0, -5000, 5000), 1);
        due("17 THE EAR is there", w.near(), 7035);
        due("17 put(1, 5000, -5000)", w.put(1, 5000, -5000), 1);
        due("17 put(0, -50, 3)", w.put(0, -50, 3), 1);
        due("17 put(1, 0, -10)", w.put(1, 0, -10), 1);
        int[][] wrong = {{-1, 0, 0}, {2, 0, 0}, {0, -5001, 0}, {0, 5001, 0}, {0, 0, -5001}, {0, 0, 5001},
            {1, -5001, 0}, {1, 5001, 0}, {1, 0, -5001}, {1, 0, 5001}, {0, LEAST, 0}, {1, 0, MOST}, {LEAST, 0, 0}};
        for (int[] p : wrong) {
            due("17 put(" + p[0] + ", " + p[1] + ", " + p[2] + ")", w.put(p[0], p[1], p[2]), OUTSIDE);
        }
        due("17 THE EAR is as it was", w.near(), 3);
        due("17 THE POST is as it was", w.turns(), 101);
    }

    // ---------------------------------------------------------------- 19, 20

    private static void leastHand() {
        // SPEED in TICK 1 is just GIVEN.
        WhipCrack w = light("go -100 0 for 1;hold 2;", 5);
        int[][] paces = {{10, 10}, {11, 20}, {100, 100}, {145, 150}, {200, 200}, {201, NONE}, {2000, NONE}};
        for (int[] p : paces) {
            w.law(3, p[0]);
            due("19 PACE " + p[0], w.leastHand(), p[1]);
        }
        w.law(3, 145);
        w.give(200);
        due("19 whatever GIVEN is", w.leastHand(), 150);
        due("19 GIVEN stays", w.count(9), 200);
        due("19 the throw stays", w.speed(1, 1), 200);
    }

    private static void loudest() {
        WhipCrack w = light("go -100 0 for 1;", 0);
        int[][] rows = {{96, 12}, {12, 12}, {11, 8}, {8, 8}, {7, 6}, {6, 6}, {5, 4}, {4, 4}, {3, 2}, {2, 2}, {1, NONE}};
        for (int[] r : rows) {
            due("20 loudest(" + r[0] + ", 0)", w.loudest(r[0], 0), r[1]);
            due("20 loudest(" + r[0] + ", NONE)", w.loudest(r[0], NONE), r[1] == NONE ? NONE : 100);
        }
        w.give(200);
        due("20 GIVEN as it is", w.loudest(12, NONE), 200);
        due("20 loudest(12, 1)", w.loudest(12, 1), NONE);
        due("20 loudest(12, -2)", w.loudest(12, -2), NONE);
        due("20 loudest(12, most)", w.loudest(12, MOST), NONE);
        due("20 loudest(12, least)", w.loudest(12, LEAST), NONE);
        due("20 loudest(0, 0)", w.loudest(0, 0), OUTSIDE);
        due("20 loudest(97, 0)", w.loudest(97, 0), OUTSIDE);
        due("20 loudest(least, 0)", w.loudest(LEAST, 0), OUTSIDE);
        due("20 THE PLAIT stays", w.piece(0, 0), 1);
        due("20 its STUFF stays", w.piece(0, 1), 2);

        WhipCrack run = new WhipCrack();
        Check.way(run, "go 200 150 for 4;go -400 -100 for 5;hold 6;");
        due("20 loudest(30, NONE)", run.loudest(30, NONE), 121);
        due("20 loudest(30, 0)", run.loudest(30, 0), 8);
        run.give(50);
        check.holds("20 found anew for another GIVEN", run.loudest(30, NONE) < 121);
        run.give(100);
        run.law(0, 50);
        check.holds("20 found anew for another law", run.loudest(30, NONE) != 121);
        run.law(0, 2);
        Check.way(run, "hold 1;");
        due("20 found anew for another WAY", run.loudest(30, NONE), 3);
        run.law(1, 0);
        due("20 nothing moves: SPEED 0", run.loudest(30, NONE), 0);
        due("20 nothing moves: the first row", run.loudest(30, 0), 12);
        due("20 nothing moves: the first row", run.loudest(30, 3), 2);

        WhipCrack many = new WhipCrack();
        Check.plait(many, "piece 8 strands 1;");
        due("20 eight PIECES need 16", many.loudest(15, NONE), NONE);
        due("20 eight PIECES need 16", many.loudest(15, 7), NONE);
        due("20 eight PIECES of 2", many.loudest(16, 7), 2);
        due("20 eight PIECES of 12", many.loudest(96, 7), 12);
        due("20 like ones: more ahead first", many.loudest(95, 6), 12);
        due("20 like ones: more ahead first", many.loudest(95, 7), 8);
        Check.plait(many, "piece 9 strands 1;");
        due("20 nine PIECES", many.loudest(96, 0), NOT);
        due("20 nine PIECES", many.loudest(96, NONE), NOT);
        due("20 OUTSIDE ahead of NOT", many.loudest(97, 0), OUTSIDE);
    }

    // ---------------------------------------------------------------- 21 to 25

    private static void aim() {
        // THE TIP goes 50, -50, -100, -137 along y = 0.
        WhipCrack w = light("go -100 0 for 1;hold 2;", 5);
        due("21 how near", w.aim(0, 0, 0, 3, 0), 50);
        due("21 the first of like ones", w.aim(0, 0, 0, 3, 1), 0);
        due("21 from 1 on", w.aim(0, 0, 1, 3, 1), 1);
        due("21 the nearest", w.aim(-120, 0, 0, 3, 0), 17);
        due("21 the nearest", w.aim(-120, 0, 0, 3, 1), 3);
        due("21 to 2", w.aim(-120, 0, 0, 2, 0), 20);
        due("21 to 2", w.aim(-120, 0, 0, 2, 1), 2);
        due("21 one TICK", w.aim(-120, 0, 1, 1, 0), 70);
        due("21 like ones by the ROOT", w.aim(-3, 1000, 0, 3, 1), 0);
        due("21 far", w.aim(5000, -5000, 0, 0, 0), 7035);
        int[][] wrong = {{-5001, 0, 0, 3, 0}, {5001, 0, 0, 3, 0}, {0, -5001, 0, 3, 0}, {0, 5001, 0, 3, 0}, {0, 0, -1, 3, 0},
            {0, 0, 4, 4, 0}, {0, 0, 0, 4, 0}, {0, 0, 0, -1, 0}, {0, 0, 2, 1, 0}, {0, 0, 0, 3, -1}, {0, 0, 0, 3, 2}, {LEAST, 0, 0, 3, 0}};
        for (int[] p : wrong) {
            due("21 aim(" + p[0] + ", " + p[1] + ", " + p[2] + ", " + p[3] + ", " + p[4] + ")",
                w.aim(p[0], p[1], p[2], p[3], p[4]), OUTSIDE);
        }
    }

    private static void alone() {
        WhipCrack w = light("go -100 0 for 1;hold 2;", 5);
        due("22 THE HAND at rest", w.alone(0, 7), 7);
        due("22 JOINT 1 at rest", w.alone(55, 0), 5);
        due("22 the last TICK", w.alone(-140, 4), 5);
        due("22 a TICK between", w.alone(-60, 0), 10);
        due("22 alone(-5001, 0)", w.alone(-5001, 0), OUTSIDE);
        due("22 alone(5001, 0)", w.alone(5001, 0), OUTSIDE);
        due("22 alone(0, -5001)", w.alone(0, -5001), OUTSIDE);
        due("22 alone(0, 5001)", w.alone(0, 5001), OUTSIDE);
        due("22 alone(5000, -5000)", w.alone(5000, -5000), 7035);
    }

    private static void bestAim() {
        // THE TIP is at 50 less GIVEN from TICK 1 on, THE HAND at - GIVEN.
        WhipCrack w = light("go -100 0 for 1;hold 2;", 50);
        due("23 just there", w.bestAim(-50, 0, 0), 100);
        due("23 like ones: the least", w.bestAim(-55, 0, 0), 100);
        due("23 TICK 0 does not count", w.bestAim(50, 0, 0), 10);
        due("23 far", w.bestAim(-5000, 0, 0), 200);
        due("23 THE EAR just so far", w.bestAim(-50, 0, 500), 100);
        due("23 THE EAR nearer", w.bestAim(-50, 0, 501), NONE);
        w.put(0, -100, 30);
        due("23 THE HAND comes too near with 100", w.bestAim(-50, 0, 31), 90);
        w.put(0, 0, 0);
        due("23 THE HAND at rest is at it", w.bestAim(-50, 0, 1), NONE);
        due("23 but r is 0", w.bestAim(-50, 0, 0), 100);
        int[][] wrong = {{-5001, 0, 0}, {5001, 0, 0}, {0, -5001, 0}, {0, 5001, 0}, {0, 0, -1}, {0, 0, 10000}, {0, MOST, 0}};
        for (int[] p : wrong) {
            due("23 bestAim(" + p[0] + ", " + p[1] + ", " + p[2] + ")", w.bestAim(p[0], p[1], p[2]), OUTSIDE);
        }
        due("23 bestAim(0, 0, 9999)", w.bestAim(0, 0, 9999), NONE);
        due("23 GIVEN stays", w.count(9), 100);
        due("23 the throw stays", w.joint(1, 1, 0), -50);
    }

    private static void close() {
        // At rest 0 and 50, from TICK 1 on -100 and -50; the second one is D less that.
        WhipCrack w = light("go -100 0 for 1;hold 2;", 50);
        due("24 apart", w.close(1000, 100, 0), 900);
        due("24 apart, later", w.close(1000, 100, 30), 900);
        due("24 towards one another", w.close(-1000, 100, 0), 800);
        due("24 who is done stays", w.close(-1000, 100, 30), 800);
        due("24 its own GIVEN", w.close(-1000, 200, 0), 700);
        due("24 both at rest: both HANDS", w.close(-30, 200, 0), 30);
        due("24 at rest ahead", w.close(-130, 200, 1), 30);
        due("24 at rest ahead", w.close(-130, 10, 30), 20);
        w.give(10);
        due("24 GIVEN of the first", w.close(-1000, 100, 0), 890);
        int[][] wrong = {{-5001, 100, 0}, {5001, 100, 0}, {0, 9, 0}, {0, 201, 0}, {0, 100, -1}, {0, 100, 31}, {LEAST, 100, 0}};
        for (int[] p : wrong) {
            due("24 close(" + p[0] + ", " + p[1] + ", " + p[2] + ")", w.close(p[0], p[1], p[2]), OUTSIDE);
        }
        due("24 GIVEN stays", w.count(9), 10);
    }

    private static void rhythm() {
        // The first CRACK is in TICK 1, if GIVEN is PACE or more; with half of it 'go' cracks in TICK 3.
        WhipCrack w = light("go -100 0 for 1;hold 2;", 50);
        w.law(3, 100);
        int[][] behind = {{0, 0}, {5, 5}, {30, 30}, {31, NONE}, {-1, NONE}, {60, NONE}, {-60, NONE}};
        for (int[] b : behind) {
            due("25 h " + b[0], w.rhythm(1000, 100, b[0], 0), b[1]);
        }
        due("25 CLOSE is just so much", w.rhythm(1000, 100, 5, 900), 5);
        due("25 CLOSE is less", w.rhythm(1000, 100, 5, 901), NONE);
        due("25 the second one does not crack", w.rhythm(1000, 90, 5, 0), NONE);
        w.give(90);
        due("25 the first one does not crack", w.rhythm(1000, 100, 5, 0), NONE);
        w.give(100);
        Check.way(w, "go -50 0 for 1;hold 1;go -100 0 for 1;");
        due("25 the first one cracks in TICK 3", w.crack(0, 0), 3);
        due("25 the second one cracks in TICK 1", w.rhythm(1000, 200, 0, 0), 2);
        due("25 ahead of the first", w.rhythm(1000, 200, -2, 0), 0);
        due("25 too far ahead", w.rhythm(1000, 200, -3, 0), NONE);
        due("25 as far behind as may be", w.rhythm(1000, 200, 28, 0), 30);
        due("25 further behind", w.rhythm(1000, 200, 29, 0), NONE);
        int[][] wrong = {{-5001, 100, 0, 0}, {5001, 100, 0, 0}, {0, 9, 0, 0}, {0, 201, 0, 0}, {0, 100, -61, 0}, {0, 100, 61, 0},
            {0, 100, 0, -1}, {0, 100, 0, 10000}, {0, 100, LEAST, 0}};
        for (int[] p : wrong) {
            due("25 rhythm(" + p[0] + ", " + p[1] + ", " + p[2] + ", " + p[3] + ")", w.rhythm(p[0], p[1], p[2], p[3]), OUTSIDE);
        }
    }

    // ---------------------------------------------------------------- 26, 27

    private static WhipCrack swung() {
        WhipCrack w = new WhipCrack();
        Check.plait(w, "piece 2 strands 6;piece 1 strands 2 stuff 2;piece 1 strands 1 stuff 2;");
        Check.way(w, "go 300 100 for 3;go -300 0 for 3;");
        return w;
    }

    private static void crackOn() {
        WhipCrack one = light("go -100 0 for 1;hold 2;", 5);
        one.law(4, 10);
        due("26 one PIECE stays", one.crackOn(), 0);
        due("26 187 times 9 / 100", one.piece(0, 4), 16);
        due("26 again", one.crackOn(), 0);
        due("26 twice 16", one.piece(0, 4), 32);
        one.speed(1, 1);
        one.kind();
        one.leastHand();
        due("26 a throw as it would be wears nothing", one.piece(0, 4), 32);
        Check.way(one, "go -89 0 for 1;");
        one.crackOn();
        due("26 89 times 9 / 100 is cut", one.piece(0, 4), 40);
        // THE TIP moves by 10 in each TICK: 10 times 9 / 100 would be 0 each time.
        WhipCrack slow = light("go -50 0 for 5;", 5);
        slow.crackOn();
        due("26 the sum of all TICKS times 9 / 100", slow.piece(0, 4), 4);

        // Without AIR the SPEEDS are 100, 100 and 0, whatever the STUFF.
        int[] wears = {4, 6, 18, 10};
        for (int stuff = 0; stuff < 4; stuff++) {
            WhipCrack s = light("go -100 0 for 1;hold 2;", 0);
            Check.plait(s, "piece 1 strands 1 stuff " + stuff + ";");
            s.crackOn();
            due("26 200 times WEARS / 100 of STUFF " + stuff, s.piece(0, 4), wears[stuff]);
        }

        WhipCrack w = swung();
        w.law(4, 30000);
        due("26 none GONE", w.crackOn(), 0);
        int worn = w.piece(2, 4);
        check.holds("26 silk wears most", worn > w.piece(1, 4) && w.piece(3, 4) >= 1);
        WhipCrack just = swung();
        just.law(4, worn);
        int gone = just.crackOn();
        check.holds("26 LASTS is reached", gone >= 2);
        due("26 so many fewer", just.count(0), 4 - gone);
        due("26 a JOINT that is no more", just.joint(4, 1, 0), UNKNOWN);
        check.holds("26 what stays has its WEAR", just.piece(0, 4) > 0);
        WhipCrack not = swung();
        not.law(4, Math.max(worn, w.piece(3, 4)) + 1);
        due("26 LASTS is not reached", not.crackOn(), 0);
        due("26 all there", not.count(0), 4);
        not.law(4, 1);
        due("26 all but PIECE 0 GONE", not.crackOn(), 3);
        due("26 one stays", not.count(0), 1);
        due("26 no more GONE", not.crackOn(), 0);

        // Both JOINTS move by 100: the silk of PIECE 0 wears by 9, the kangaroo behind it by 2.
        WhipCrack worn0 = light("go -100 0 for 1;", 5);
        Check.plait(worn0, "piece 1 strands 1 stuff 2;piece 1 strands 1;");
        worn0.law(4, 9);
        due("26 PIECE 0 takes none with it", worn0.crackOn(), 0);
        dues("26 both are there", pieces(worn0, 4), 9, 2);
    }

    private static void evening() {
        WhipCrack w = swung();
        w.law(4, 30000);
        w.crackOn();
        int worn = Math.max(Math.max(w.piece(1, 4), w.piece(2, 4)), w.piece(3, 4));
        due("27 just one", w.evening(1), 1);
        WhipCrack two = swung();
        two.law(4, 2 * worn);
        due("27 until some PIECE is GONE", two.evening(40), 2);
        check.holds("27 it is GONE", two.count(0) < 4);
        WhipCrack three = swung();
        three.law(4, 2 * worn + 1);
        due("27 one more", three.evening(40), 3);
        WhipCrack few = swung();
        few.law(4, 2 * worn + 1);
        due("27 n were", few.evening(2), 2);
        due("27 none GONE", few.count(0), 4);
        due("27 the third one", few.evening(40), 1);
        WhipCrack one = light("go -100 0 for 1;hold 2;", 5);
        one.law(4, 1);
        due("27 PIECE 0 is never GONE", one.evening(40), 40);
        due("27 40 times 16", one.piece(0, 4), 640);
        due("27 evening(0)", one.evening(0), OUTSIDE);
        due("27 evening(41)", one.evening(41), OUTSIDE);
        due("27 evening(least)", one.evening(LEAST), OUTSIDE);
        due("27 nothing wore", one.piece(0, 4), 640);
    }

    // ---------------------------------------------------------------- 28 to 33

    private static void cutDue(int[] hides, int[] strands, int want) {
        WhipCrack w = new WhipCrack();
        for (int h : hides) {
            w.lay(0, h);
        }
        for (int s : strands) {
            w.lay(1, s);
        }
        due("30 " + java.util.Arrays.toString(hides) + " for " + java.util.Arrays.toString(strands), w.cut(), want);
    }

    private static void hides() {
        WhipCrack w = new WhipCrack();
        for (int i = 1; i <= 6; i++) {
            due("28 a HIDE", w.lay(0, 999), i);
        }
        due("28 a seventh HIDE", w.lay(0, 1), FULL);
        for (int i = 1; i <= 8; i++) {
            due("28 a STRAND", w.lay(1, 1), i);
        }
        due("28 a ninth STRAND", w.lay(1, 1), FULL);
        due("28 OUTSIDE ahead of FULL", w.lay(0, 1000), OUTSIDE);
        int[][] wrong = {{-1, 5}, {2, 5}, {0, 0}, {1, 0}, {1, 1000}, {0, LEAST}, {MOST, 5}};
        for (int[] p : wrong) {
            due("28 lay(" + p[0] + ", " + p[1] + ")", w.lay(p[0], p[1]), OUTSIDE);
        }
        due("28 six", w.count(6), 6);
        due("28 eight", w.count(7), 8);
        due("29 both", w.clear(), 14);
        due("29 none", w.count(6), 0);
        due("29 none", w.count(7), 0);
        due("29 none any more", w.clear(), 0);

        cutDue(new int[] {}, new int[] {}, 0);
        cutDue(new int[] {50}, new int[] {}, 0);
        cutDue(new int[] {}, new int[] {1}, NONE);
        cutDue(new int[] {50}, new int[] {50}, 1);
        cutDue(new int[] {50}, new int[] {51}, NONE);
        cutDue(new int[] {50, 50, 100}, new int[] {50, 50}, 4);
        cutDue(new int[] {50, 100, 100}, new int[] {60, 40}, 2);
        cutDue(new int[] {10, 20, 30}, new int[] {10, 20, 30}, 7);
        cutDue(new int[] {10, 20, 30}, new int[] {30, 20, 10}, 7);
        cutDue(new int[] {50, 60, 100}, new int[] {60, 40, 50}, 5);
        cutDue(new int[] {60, 60}, new int[] {40, 40, 40}, NONE);
        cutDue(new int[] {80, 40, 40}, new int[] {40, 40, 40}, 3);
        cutDue(new int[] {100, 100, 100}, new int[] {60, 50, 50, 40, 70, 30}, 7);
        cutDue(new int[] {999, 999, 999, 999, 999, 999}, new int[] {999, 998, 500, 499, 1, 999, 999, 999}, 63);
        cutDue(new int[] {7, 8, 9, 10, 11, 12}, new int[] {12, 11, 10, 9, 8, 7}, 63);
        cutDue(new int[] {5, 5, 5, 5, 5, 5}, new int[] {3, 3, 3, 3, 3, 3, 3}, NONE);
        cutDue(new int[] {5, 5, 5, 5, 5, 10}, new int[] {5, 5, 5}, 33);
    }

    private static void film() {
        WhipCrack w = light("go -100 0 for 1;hold 2;", 50);
        due("33 empty", w.told(0), NOT);
        due("33 empty", w.told(1), NOT);
        due("33 OUTSIDE ahead of NOT", w.told(2), OUTSIDE);
        due("31 film(-55, 3)", w.film(-55, 3), 1);
        due("33 the least of like ones", w.told(0), 100);
        due("33 the least sum", w.told(1), 8);
        due("31 film(-60, 0)", w.film(-60, 0), 2);
        due("33 over two TICKS", w.told(0), 110);
        due("33 over two TICKS", w.told(1), 8);
        due("31 film(-50, 0)", w.film(-50, 0), 3);
        due("33 over three", w.told(0), 100);
        due("33 over three", w.told(1), 18);
        due("31 film(9999, -9999)", w.film(9999, -9999), 4);
        due("33 a TICK that THE WAY does not have", w.told(1), 18);
        due("33 told(-1)", w.told(-1), OUTSIDE);
        due("33 told(most)", w.told(MOST), OUTSIDE);
        int[][] wrong = {{-10000, 0}, {10000, 0}, {0, -10000}, {0, 10000}, {LEAST, 0}, {0, MOST}};
        for (int[] p : wrong) {
            due("31 film(" + p[0] + ", " + p[1] + ")", w.film(p[0], p[1]), OUTSIDE);
        }
        for (int i = 5; i <= 60; i++) {
            due("31 film", w.film(-9999, 9999), i);
        }
        due("31 a 61st", w.film(0, 0), FULL);
        due("31 OUTSIDE ahead of FULL", w.film(10000, 0), OUTSIDE);
        due("31 sixty", w.count(8), 60);
        due("33 as it was", w.told(1), 18);
        due("32 blank", w.blank(), 60);
        due("32 blank again", w.blank(), 0);
        due("32 empty", w.count(8), 0);
        due("33 empty", w.told(0), NOT);
        due("31 from the first place on", w.film(40, 0), 1);
        due("33 GIVEN 10", w.told(0), 10);
        due("33 GIVEN stays", w.count(9), 100);
    }

    // ---------------------------------------------------------------- 34, 35

    private static void images() {
        WhipCrack w = light("go -100 0 for 1;hold 2;", 5);
        w.law(2, 4);
        w.law(3, 77);
        w.law(4, 1234);
        w.crackOn();
        due("34 keep(-1)", w.keep(-1), UNKNOWN);
        due("34 keep(2)", w.keep(2), UNKNOWN);
        due("35 goBack(-1)", w.goBack(-1), UNKNOWN);
        due("35 goBack(2)", w.goBack(2), UNKNOWN);
        due("35 goBack(most)", w.goBack(MOST), UNKNOWN);
        due("34 keep(0)", w.keep(0), 1);
        due("35 goBack(1)", w.goBack(1), NOT);

        w.evening(2);
        Check.plait(w, "length 99;piece 3 strands 3 stuff 1;");
        Check.way(w, "hold 7;hold 2;");
        w.law(0, 1);
        w.law(1, 1);
        w.law(2, 1);
        w.law(3, 11);
        w.law(4, 1);
        w.give(20);
        w.put(1, 0, -10);
        w.put(0, -50, 3);
        w.film(1, 1);
        w.lay(0, 9);
        Check.feed(w, "piece 0");
        w.plait();
        Check.feed(w, "ho");
        due("34 keep(1)", w.keep(1), 1);
        due("35 goBack(0)", w.goBack(0), 1);
        dues("35 count", counts(w), 1, 50, 3, 2, 2, 1, 1, 0, 1, 20);
        due("35 STUFF", w.piece(0, 1), 2);
        due("35 WEAR", w.piece(0, 4), 16);
        due("35 fault stays", w.fault(), 6);
        w.give(100);
        dues("35 the throw", xs(w, 1), 50, -50, -100, -137);
        due("35 THE POST stays", w.turns(), 101);
        due("35 THE EAR stays", w.near(), 3);
        due("35 AIR", w.law(0, 5), 5);
        due("35 FALL", w.law(1, 0), 0);
        due("35 ROUNDS", w.law(2, 4), 4);
        due("35 PACE", w.law(3, 77), 77);
        due("35 LASTS", w.law(4, 1234), 1234);

        w.crackOn();
        due("35 on from there", w.piece(0, 4), 32);
        due("35 goBack(0) again", w.goBack(0), 1);
        due("35 the IMAGE did not wear", w.piece(0, 4), 16);
        due("35 goBack(1)", w.goBack(1), 1);
        dues("35 STRANDS of the other", pieces(w, 0), 3, 3, 3);
        due("35 LENGTH of the other", w.count(1), 99);
        due("35 TICKS of the other", w.count(2), 9);
        due("35 LASTS of the other", w.law(4, 2), 1);
        due("34 keep(0) again", w.keep(0), 1);
        w.goBack(1);
        due("35 as kept", w.law(4, 9), 1);
        w.goBack(0);
        due("35 as kept last", w.law(4, 9), 2);

        WhipCrack far = new WhipCrack();
        Check.way(far, "go 60 -60 for 30;go 60 -60 for 30;");
        far.keep(0);
        Check.way(far, "hold 30;hold 30;");
        far.goBack(0);
        due("35 all sixty TICKS", far.count(2), 60);
        due("35 x in TICK 60", far.joint(0, 60, 0), 120);
        due("35 y in TICK 60", far.joint(0, 60, 1), -120);
        due("35 x in TICK 59", far.joint(0, 59, 0), 118);
        due("35 y in TICK 59", far.joint(0, 59, 1), -118);
    }
}
