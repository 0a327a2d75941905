/** Section 3 of the document: laws and throws; and promises 7, 8 and 10 to 13. */
final class BoundsOfThrows extends Bounds {
    BoundsOfThrows(Sentences doc) {
        super(doc);
    }

    void run() {
        laws();
        beginning();
        goingOn();
        pulling();
        speeds();
        loops();
        lawCalls();
        throwCalls();
    }

    private void laws() {
        sentence("AIR (0 .. 50; 2 at first)", () -> {
            lawBounds(AIR, 2, 0, 50);
            // What it moved, 18, less 18 times AIR of 1000: all of it, 2 hairs of it, 1 hair.
            int[][] airs = {{0, 14}, {49, 30}, {50, 31}};
            for (int[] a : airs) {
                dues("AIR " + a[0], xs(whip(SILK, "go -18 0 for 1;hold 1;", a[0], 0), 1), 50, 32, a[1]);
            }
        });
        sentence("FALL (0 .. 50; 3)", () -> {
            lawBounds(FALL, 3, 0, 50);
            dues("FALL 0", ys(whip(SILK, "hold 2;", 50, 0), 1), 0, 0, 0);
            dues("FALL 50, THE HAND with it", ys(whip(SILK, "go 0 -50 for 1;", 50, 50), 1), 0, -50);
        });
        sentence("ROUNDS (1 .. 8; 3)", () -> {
            lawBounds(ROUNDS, 3, 1, 8);
            // Reckoned by hand: the first round, the second, the third, of two PIECES that THE HAND lifts.
            int[][] rounds = {{1, 40, 10, 88, -5}, {2, 41, 12, 88, -6}, {3, 42, 12, 89, -6}};
            for (int[] r : rounds) {
                WhipCrack w = whip("piece 2 strands 10;", "go 0 40 for 1;", 0, 0, r[0]);
                dues("ROUNDS " + r[0], new long[] {w.joint(1, 1, 0), w.joint(1, 1, 1), w.joint(2, 1, 0), w.joint(2, 1, 1)},
                    r[1], r[2], r[3], r[4]);
            }
            String far = "go -300 200 for 1;";
            due("seven", whip("piece 2 strands 1 stuff 2;", far, 0, 0, 7).joint(2, 1, 0), -211);
            due("the eighth is done", whip("piece 2 strands 1 stuff 2;", far, 0, 0, 8).joint(2, 1, 0), -212);
        });
        sentence("PACE (10 .. 2000; 150)", () -> {
            lawBounds(PACE, 150, 10, 2000);
            due("PACE 10, SPEED 9", whip(SILK, "go -9 0 for 1;", 50, 0, 3, 10).crack(NONE, 0), 0);
            due("PACE 10, SPEED 10", whip(SILK, "go -10 0 for 1;", 50, 0, 3, 10).crack(NONE, 0), 1);
            fastest("go -999 -46 for 1;", 1999, 0);
            fastest("go -999 -56 for 1;", 2000, 1);
            due("at first, SPEED 149", light("go -149 0 for 1;").crack(NONE, 0), 0);
            due("at first, SPEED 150", light("go -150 0 for 1;").crack(NONE, 0), 1);
        });
    }

    private void fastest(String way, int speed, int cracks) {
        WhipCrack w = whip(SILK, way, 50, 0, 3, 2000);
        w.give(200);
        due("SPEED of '" + way + "'", w.speed(1, 1), speed);
        due("CRACKS with PACE 2000", w.crack(NONE, 0), cracks);
    }

    private void beginning() {
        sentence("A THROW begins at rest: JOINT k at (k times LENGTH, 0), THE HAND at (0, 0)", () -> {
            WhipCrack w = whip("length 200;piece 12 strands 16 stuff 1;", "go -999 999 for 1;", 0, 50, 8);
            w.give(200);
            for (int k = 0; k <= 12; k++) {
                due("x of JOINT " + k, w.joint(k, 0, 0), 200 * k);
                due("y of JOINT " + k, w.joint(k, 0, 1), 0);
            }
            w.crackOn();
            due("at rest again behind a THROW", w.joint(1, 0, 0), 200);
            due("x at rest with 20", whip("length 20;" + SILK, "hold 1;").joint(1, 0, 0), 20);
        });
        sentence("In each TICK (1 and on, as many as THE WAY has)", () -> {
            for (int ticks : new int[] {1, 30, 60}) {
                WhipCrack w = light(ticks == 60 ? "hold 30;hold 30;" : "hold " + ticks + ";");
                due("TICK " + ticks, w.joint(1, ticks, 0), 50);
                due("TICK " + (ticks + 1), w.joint(1, ticks + 1, 0), UNKNOWN);
                due("SPEED in TICK " + ticks, w.speed(1, ticks), 0);
                due("SPEED in TICK " + (ticks + 1), w.speed(1, ticks + 1), UNKNOWN);
            }
            WhipCrack w = light("hold 30;hold 29;go -100 0 for 1;");
            dues("the sixtieth is done", new long[] {w.joint(1, 59, 0), w.joint(1, 60, 0)}, 50, -50);
        });
        sentence("times GIVEN / 100 (each coordinate, cut; GIVEN 100, if nothing else is told)", () -> {
            WhipCrack w = light("go 9 -9 for 1;go 10 -10 for 1;go 1 -1 for 1;");
            dues("GIVEN 100", xs(w, 0), 0, 9, 19, 20);
            w.give(10);
            dues("x with 10", xs(w, 0), 0, 0, 1, 2);
            dues("y with 10", ys(w, 0), 0, 0, -1, -2);
            w.give(199);
            dues("x with 199", xs(w, 0), 0, 17, 37, 39);
            dues("y with 199", ys(w, 0), 0, -17, -37, -39);
            WhipCrack far = light("times 6(times 2(times 5(go -999 999 for 1;)))");
            far.give(200);
            due("the furthest x", far.joint(0, 60, 0), -119880);
            due("the furthest y", far.joint(0, 60, 1), 119880);
        });
    }

    private void goingOn() {
        sentence("Then each JOINT k from 1 on goes on: with u, v what it moved in the TICK before (0, 0 in TICK 1)", () -> {
            // Without AIR what moved by -15 in TICK 1 moves by -15 in TICK 2; THE HAND does not go on.
            WhipCrack w = whip(SILK, "go -15 0 for 1;hold 1;", 0, 0);
            dues("JOINT 1", xs(w, 1), 50, 35, 20);
            dues("THE HAND", xs(w, 0), 0, -15, -15);
            dues("TICK 1 at rest", xs(whip(SILK, "hold 2;", 0, 0), 1), 50, 50, 50);
            // A THROW ahead, whose JOINTS move to the end, leaves nothing for TICK 1 of the next one.
            Check.way(w, "go -300 0 for 3;");
            due("moved at the end", w.speed(1, 3), 100);
            Check.way(w, "hold 1;");
            due("TICK 1 of another THROW", w.speed(1, 1), 0);
        });
        sentence("if AIR times p is 1000 w or more it does not", () -> {
            // AIR 50 and WEIGHT 1: p 18 leaves 100 of 1000, p 20 just nothing, p 21 less than nothing.
            int[][] moved = {{18, 1}, {20, 0}, {21, 0}, {100, 0}};
            for (int[] m : moved) {
                WhipCrack w = light("go -" + m[0] + " 0 for 1;hold 1;");
                due("behind " + m[0], w.speed(1, 2), m[1]);
            }
            // WEIGHT 2: p 38 leaves 100 of 2000, p 40 nothing.
            int[][] heavier = {{38, 1}, {40, 0}, {42, 0}};
            for (int[] m : heavier) {
                WhipCrack w = whip("piece 1 strands 2 stuff 2;", "go -" + m[0] + " 0 for 1;hold 1;", 50, 0);
                due("WEIGHT 2 behind " + m[0], w.speed(1, 2), m[1]);
            }
            // To the right, where it is slack behind: nothing would keep it from going on.
            dues("moved by 20", xs(light("go 120 0 for 1;hold 1;"), 1), 50, 70, 70);
            dues("moved by 18", xs(light("go 118 0 for 1;hold 1;"), 1), 50, 68, 69);
        });
        sentence("else by u times (1000 w less AIR p) / (1000 w), v likewise", () -> {
            // It moved by (-11, 9), p 14 of 202: of AIR 50 and WEIGHT 1 just 300 of 1000 are left, of AIR 0 all.
            WhipCrack w = whip(SILK, "go 0 40 for 1;hold 1;", 50, 0, 1);
            dues("x", xs(w, 1), 50, 39, 36);
            dues("y", ys(w, 1), 0, 9, 11);
            w.law(AIR, 0);
            dues("x without AIR", xs(w, 1), 50, 39, 28);
            dues("y without AIR", ys(w, 1), 0, 9, 18);
        });
        sentence("FALL is taken from y", () -> {
            // In TICK 1 it moved by (-20, -3), ROOT 20: it does not go on in TICK 2, but falls.
            WhipCrack w = whip(SILK, "go -20 0 for 1;hold 1;", 50, 4);
            dues("x", xs(w, 1), 50, 30, 30);
            dues("y", ys(w, 1), 0, -3, -7);
            dues("THE HAND does not fall", ys(w, 0), 0, 0, 0);
            // Without AIR by 3, and by 3 and 3 more.
            dues("as it goes on", ys(whip(SILK, "hold 2;", 0, 3), 1), 0, -3, -9);
        });
        sentence("Then each k from 2 on: with q twice JOINT k - 1 less JOINT k - 2: it moves by (q less it) times BENDS / 1000", () -> {
            dues("JOINT 2 is bent, JOINT 1 is not", row(whip("piece 2 strands 16 stuff 1;", "go 50 0 for 1;", 0, 0), 1), 50, 50, 75);
            dues("the last of three too, by JOINT 2 as it is bent", row(whip("piece 3 strands 16 stuff 1;", "go 50 0 for 1;", 0, 0), 1),
                50, 50, 75, 125);
            // -111 times 18 is -1998, which is -1 and not yet -2.
            dues("cut towards 0", row(whip("piece 2 strands 9 stuff 2;", "go 111 0 for 1;", 0, 0), 1), 111, 61, 99);
            // JOINTS 1 and 2 fall to -4, q is 16 there: JOINT 2 moves by half of 20.
            WhipCrack y = whip("piece 2 strands 16 stuff 1;", "go 50 -24 for 1;", 0, 4);
            dues("y likewise", new long[] {y.joint(0, 1, 1), y.joint(1, 1, 1), y.joint(2, 1, 1)}, -24, -4, 6);
            dues("JOINT 1 alone", row(whip("piece 1 strands 16 stuff 1;", "go 50 0 for 1;", 0, 0), 1), 50, 50);
        });
    }

    private void pulling() {
        sentence("Then ROUNDS times for each k from 1 on: (a, b) is JOINT k less JOINT k - 1, d the ROOT of a a and b b; "
            + "if d is more than LENGTH, e is d less LENGTH", () -> {
            dues("50: not pulled", xs(light("go 0 0 for 1;"), 1), 50, 50);
            dues("51: pulled by 1", xs(light("go -1 0 for 1;"), 1), 50, 49);
            // (50, -10) has the ROOT 50 of 2600; (50, -11) the ROOT 51 of 2621.
            WhipCrack w = whip(SILK, "hold 1;", 0, 10);
            dues("d is LENGTH", new long[] {w.joint(1, 1, 0), w.joint(1, 1, 1)}, 50, -10);
            w.law(FALL, 11);
            dues("d is LENGTH and 1", new long[] {w.joint(1, 1, 0), w.joint(1, 1, 1)}, 49, -10);
        });
        sentence("if k is 1, it moves by - a e / d, - b e / d; else with w the WEIGHT of k - 1, x that of k", () -> {
            // JOINT 1 takes all of it; THE HAND stays where THE WAY has it.
            WhipCrack w = light("go -60 0 for 1;");
            dues("THE HAND and JOINT 1", row(w, 1), -60, -10);
            // TICK 1 takes both by -100. In TICK 2 AIR leaves JOINT 1 (WEIGHT 6) -85, JOINT 2 (WEIGHT 1) -10: they are 125
            // apart, 75 too much. JOINT 1 takes 75 / 7 of it, JOINT 2 six times that.
            WhipCrack two = whip("piece 1 strands 3 stuff 3;piece 1 strands 1 stuff 2;", "go -100 0 for 1;go -50 0 for 1;", 9, 0, 1);
            dues("both taut", row(two, 1), -100, -50, 0);
            dues("by WEIGHTS", row(two, 2), -150, -125, -75);
        });
        sentence("b likewise (all by (a, b) as it was)", () -> {
            // (50, -40) is 64 long, 14 too much: by 700 / 64 in x and by -560 / 64 in y, not by what x has become.
            WhipCrack w = whip(SILK, "go 0 40 for 1;", 0, 0, 1);
            dues("JOINT 1", new long[] {w.joint(1, 1, 0), w.joint(1, 1, 1)}, 39, 9);
            WhipCrack two = whip("piece 2 strands 10;", "go 0 40 for 1;", 0, 0, 1);
            dues("two of them", new long[] {two.joint(1, 1, 0), two.joint(1, 1, 1), two.joint(2, 1, 0), two.joint(2, 1, 1)},
                40, 10, 88, -5);
        });
        sentence("Last, once, for each k from 1 on: if d is more than LENGTH, JOINT k is put at JOINT k - 1 and a LENGTH / d, b LENGTH / d", () -> {
            // ROUNDS leave (40, 8), 51 from (0, 40): put at (39, 9), which is 50 from it.
            WhipCrack w = whip(SILK, "go 0 40 for 1;", 0, 0, 8);
            dues("51 long", new long[] {w.joint(1, 1, 0), w.joint(1, 1, 1)}, 39, 9);
            // In a straight row one round leaves too much, but what is put last is just LENGTH.
            dues("just LENGTH", row(whip("piece 3 strands 1 stuff 2;", "go -100 0 for 1;", 0, 0, 1), 1), -100, -50, 0, 50);
            dues("less than LENGTH stays", row(whip("piece 2 strands 1 stuff 2;", "go 30 0 for 1;", 0, 0), 1), 30, 50, 100);
        });
    }

    private void speeds() {
        sentence("SPEED of JOINT k in a TICK: the ROOT of what it moved in x times that and in y likewise", () -> {
            int[][] moves = {{0, 0, 0}, {1, 1, 1}, {-2, 2, 2}, {3, -4, 5}, {-3, -1, 3}, {0, -7, 7}, {7, 0, 7}, {999, -999, 1412}};
            for (int[] m : moves) {
                due("by " + m[0] + ", " + m[1], light("go " + m[0] + " " + m[1] + " for 1;").speed(0, 1), m[2]);
            }
            WhipCrack w = whip(SILK, "go 0 40 for 1;", 0, 0, 1);
            due("JOINT 1 by -11, 9: the ROOT of 202", w.speed(1, 1), 14);
        });
        sentence("FORCE: its WEIGHT times the squares of what it moved, together", () -> {
            WhipCrack w = whip(SILK, "go 0 40 for 1;", 0, 0, 1);
            due("by -11, 9: 202, not the square of SPEED", w.force(1, 1), 202);
            due("all of one JOINT", w.force(NONE, 1), 202);
            due("WEIGHT 80", whip("piece 1 strands 16 stuff 1;", "go 0 40 for 1;", 0, 0, 1).force(1, 1), 80 * 202);
        });
    }

    private void loops() {
        sentence("JOINT k (1 to the last but one) for which what PIECE k - 1 has (its x times that of PIECE k, and y likewise) "
            + "is least and below 0 (the first of these); NONE.", () -> {
            // THE HAND just short of JOINT 1, at it, just beyond it: 1 times 50, 0 times 50, -1 times 50.
            int[][] hands = {{49, NONE}, {50, NONE}, {51, 1}};
            for (int[] h : hands) {
                due("THE HAND at " + h[0], whip("piece 2 strands 1 stuff 2;", "go " + h[0] + " 0 for 1;", 0, 0).loop(1), h[1]);
            }
            due("one PIECE has none", light("go 90 0 for 1;").loop(1), NONE);
            WhipCrack last = whip("piece 3 strands 1 stuff 3;", "go 150 0 for 1;", 0, 0);
            dues("-50, -1 and 50 long", row(last, 1), 150, 100, 99, 149);
            due("the last but one", last.loop(1), 2);
            WhipCrack like = whip("piece 3 strands 1 stuff 2;", "go 150 0 for 2;hold 2;", 0, 0);
            dues("0, -50 and 50 long", row(like, 3), 150, 150, 100, 150);
            due("0 is not below 0", like.loop(3), 2);
            dues("25, -50 and 25 long", row(like, 4), 150, 175, 125, 150);
            due("the first of like ones", like.loop(4), 1);
            // THE HAND below or above JOINT 1, which is straight above or below it: 0 and 50 times 10, to both sides.
            String two = "piece 2 strands 1 stuff 2;";
            due("both up", whip(two, "go 50 -60 for 1;", 50, 0).loop(1), NONE);
            due("both down", whip(two, "go 50 60 for 1;", 50, 0).loop(1), NONE);
            // In TICK 2 THE HAND is 45 above JOINT 1, and JOINT 2 is 14 above that.
            WhipCrack turned = whip(two, "go 50 -60 for 1;go 0 90 for 1;", 50, 0);
            dues("x of TICK 2", row(turned, 2), 50, 50, 98);
            dues("y of TICK 2", new long[] {turned.joint(0, 2, 1), turned.joint(1, 2, 1), turned.joint(2, 2, 1)}, 30, -15, -1);
            due("down, then up", turned.loop(2), 1);
            // PIECES of (-49, -10), (-1, 10), (50, 0): 49 less 100 is just less than -50 and 0.
            WhipCrack both = whip("piece 3 strands 1 stuff 2;", "go 90 -60 for 1;go 60 60 for 1;", 50, 0);
            dues("x", row(both, 2), 150, 101, 100, 150);
            dues("y", new long[] {both.joint(0, 2, 1), both.joint(1, 2, 1), both.joint(2, 2, 1), both.joint(3, 2, 1)}, 0, -10, 0, 0);
            due("-51 ahead of -50", both.loop(2), 1);
        });
    }

    // ------------------------------------------------------------ promises 7, 8, 10 to 13

    private void lawCalls() {
        sentence("What = 0 AIR, 1 FALL, 2 ROUNDS, 3 PACE, 4 LASTS becomes v: what it was. OUTSIDE.", () -> {
            WhipCrack w = used();
            dues("what it was", new long[] {w.law(0, 10), w.law(1, 10), w.law(2, 8), w.law(3, 10), w.law(4, 10)}, 4, 5, 2, 60, 20000);
            dues("what it became", new long[] {w.law(0, 0), w.law(1, 0), w.law(2, 1), w.law(3, 10), w.law(4, 1)}, 10, 10, 8, 10, 10);
            refused("law(-1, 10)", x -> x.law(-1, 10), OUTSIDE);
            refused("law(5, 10)", x -> x.law(5, 10), OUTSIDE);
            refused("law(least, 10)", x -> x.law(LEAST, 10), OUTSIDE);
            refused("law(most, 10)", x -> x.law(MOST, 10), OUTSIDE);
        });
        sentence("GIVEN becomes v (10 .. 200): what it was. OUTSIDE.", () -> {
            WhipCrack w = light("go -100 0 for 1;");
            due("give(10)", w.give(10), 100);
            due("THE TIP with 10", w.joint(1, 1, 0), 40);
            due("give(200)", w.give(200), 10);
            due("THE TIP with 200", w.joint(1, 1, 0), -150);
            due("count(9)", w.count(9), 200);
            for (int v : new int[] {9, 201, 0, -10, LEAST, MOST}) {
                refused("give(" + v + ")", x -> x.give(v), OUTSIDE);
            }
        });
    }

    private void throwCalls() {
        sentence("A place of a JOINT behind a TICK (0: at rest): what = 0 x, 1 y. UNKNOWN (the JOINT, the TICK), OUTSIDE.", () -> {
            WhipCrack w = used();
            due("joint(0, 0, 0)", w.joint(0, 0, 0), 0);
            due("joint(5, 0, 0)", w.joint(5, 0, 0), 300);
            due("joint(0, 8, 0)", w.joint(0, 8, 0), 96);
            due("joint(0, 8, 1)", w.joint(0, 8, 1), 72);
            refused("joint(-1, 0, 0)", x -> x.joint(-1, 0, 0), UNKNOWN);
            refused("joint(6, 0, 0)", x -> x.joint(6, 0, 0), UNKNOWN);
            refused("joint(0, -1, 0)", x -> x.joint(0, -1, 0), UNKNOWN);
            refused("joint(0, 9, 0)", x -> x.joint(0, 9, 0), UNKNOWN);
            refused("joint(0, 0, -1)", x -> x.joint(0, 0, -1), OUTSIDE);
            refused("joint(5, 8, 2)", x -> x.joint(5, 8, 2), OUTSIDE);
            refused("joint(6, 8, 2)", x -> x.joint(6, 8, 2), UNKNOWN);
            refused("joint(5, 9, 2)", x -> x.joint(5, 9, 2), UNKNOWN);
            refused("joint(least, 0, 0)", x -> x.joint(LEAST, 0, 0), UNKNOWN);
            refused("joint(0, most, 0)", x -> x.joint(0, MOST, 0), UNKNOWN);
        });
        sentence("(It may be as a refusal is.)", () -> {
            WhipCrack w = light("go -1 0 for 1;go -999 0 for 1;go -1 0 for 1;go -1 0 for 1;go -1 0 for 1;go -1 0 for 1;");
            dues("x of THE HAND", xs(w, 0), 0, NONE, -1000, UNKNOWN, OUTSIDE, NOT, FULL);
        });
        sentence("SPEED of a JOINT (0, too) in a TICK (1 and on). UNKNOWN.", () -> {
            WhipCrack w = light("go 40 0 for 1;go -100 0 for 1;");
            dues("THE HAND", new long[] {w.speed(0, 1), w.speed(0, 2)}, 40, 100);
            dues("JOINT 1", new long[] {w.speed(1, 1), w.speed(1, 2)}, 0, 60);
            refused("speed(-1, 1)", x -> x.speed(-1, 1), UNKNOWN);
            refused("speed(6, 1)", x -> x.speed(6, 1), UNKNOWN);
            refused("speed(0, 0)", x -> x.speed(0, 0), UNKNOWN);
            refused("speed(5, 9)", x -> x.speed(5, 9), UNKNOWN);
            refused("speed(5, -1)", x -> x.speed(5, -1), UNKNOWN);
            refused("speed(least, 1)", x -> x.speed(LEAST, 1), UNKNOWN);
            refused("speed(0, most)", x -> x.speed(0, MOST), UNKNOWN);
            due("speed(5, 8) is none of the refusals", used().speed(5, 8) >= 0 ? 1 : 0, 1);
        });
        sentence("FORCE of a JOINT (1 and on) in a TICK (1 and on); k = NONE: of all together. UNKNOWN.", () -> {
            // Twelve JOINTS of WEIGHT 80 that move by 1998 each: more than an int can hold.
            WhipCrack w = whip("piece 12 strands 16 stuff 1;", "go -999 0 for 1;", 0, 0);
            w.give(200);
            due("JOINT 1", w.force(1, 1), 80L * 1998 * 1998);
            due("JOINT 12", w.force(12, 1), 80L * 1998 * 1998);
            due("all together", w.force(NONE, 1), 12 * 80L * 1998 * 1998);
            due("nothing moves", light("hold 1;").force(NONE, 1), 0);
            refused("force(0, 1)", x -> x.force(0, 1), UNKNOWN);
            refused("force(-2, 1)", x -> x.force(-2, 1), UNKNOWN);
            refused("force(6, 1)", x -> x.force(6, 1), UNKNOWN);
            refused("force(1, 0)", x -> x.force(1, 0), UNKNOWN);
            refused("force(1, 9)", x -> x.force(1, 9), UNKNOWN);
            refused("force(NONE, 0)", x -> x.force(NONE, 0), UNKNOWN);
            refused("force(NONE, 9)", x -> x.force(NONE, 9), UNKNOWN);
            refused("force(most, 1)", x -> x.force(MOST, 1), UNKNOWN);
            refused("force(1, least)", x -> x.force(1, LEAST), UNKNOWN);
        });
        sentence("LOOP of a TICK (0 and on); NONE. UNKNOWN.", () -> {
            WhipCrack w = whip("piece 2 strands 1 stuff 2;", "go 51 0 for 1;", 0, 0);
            due("loop(0)", w.loop(0), NONE);
            due("loop(1)", w.loop(1), 1);
            due("loop(2)", w.loop(2), UNKNOWN);
            refused("loop(-1)", x -> x.loop(-1), UNKNOWN);
            refused("loop(9)", x -> x.loop(9), UNKNOWN);
            refused("loop(least)", x -> x.loop(LEAST), UNKNOWN);
            refused("loop(most)", x -> x.loop(MOST), UNKNOWN);
            due("loop(8) is none of the refusals", used().loop(8) >= NONE ? 1 : 0, 1);
        });
    }
}
