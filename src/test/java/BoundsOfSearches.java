/** Section 5 of the document: the least hand, the loudest plait, aims, two whips; and promises 19 to 25. */
final class BoundsOfSearches extends Bounds {
    BoundsOfSearches(Sentences doc) {
        super(doc);
    }

    void run() {
        leastHand();
        loudest();
        loudestCall();
        aims();
        aimCalls();
        two();
        twoCalls();
    }

    // ------------------------------------------------------------ the least, the loudest

    /** PACE, and the least of 10, 20, .. 200 that reaches it, if SPEED is just GIVEN. */
    private void leastHands(int[][] hands) {
        WhipCrack w = light("go -100 0 for 1;");
        for (int[] h : hands) {
            w.law(PACE, h[0]);
            due("PACE " + h[0], w.leastHand(), h[1]);
        }
    }

    private void leastHand() {
        sentence("LEAST HAND: the least GIVEN (10, 20, .. 200) with which it cracks", () -> {
            leastHands(new int[][] {{10, 10}, {11, 20}, {20, 20}, {21, 30}, {190, 190}, {191, 200}, {200, 200}});
            WhipCrack w = light("go -100 0 for 1;");
            w.give(200);
            due("whatever GIVEN is", w.leastHand(), 150);
            w.give(10);
            due("whatever GIVEN is", w.leastHand(), 150);
            due("GIVEN stays", w.count(9), 10);
        });
        sentence("LEAST HAND; NONE.", () -> {
            leastHands(new int[][] {{200, 200}, {201, NONE}, {2000, NONE}});
            asks("leastHand()", WhipCrack::leastHand);
        });
    }

    /** STRANDS of all PIECES of the LOUDEST PLAIT. */
    private static long[] loudestRow(WhipCrack w, int s) {
        long[] all = new long[w.count(0)];
        for (int i = 0; i < all.length; i++) {
            all[i] = w.loudest(s, i);
        }
        return all;
    }

    /** Nothing moves, so that all rows are like ones. */
    private WhipCrack still(int pieces) {
        return whip("piece " + pieces + " strands 1;", "hold 1;", 0, 0);
    }

    private void loudest() {
        sentence("for the PIECES there are (8 at most, else NOT)", () -> {
            dues("one", loudestRow(still(1), 96), 12);
            dues("eight", loudestRow(still(8), 96), 12, 12, 12, 12, 12, 12, 12, 12);
            due("nine", still(9).loudest(96, 0), NOT);
            due("twelve", still(12).loudest(96, NONE), NOT);
            refused(() -> usedWith("piece 9 strands 2;"), "loudest(96, 0) of nine", x -> x.loudest(96, 0), NOT);
        });
        sentence("STRANDS from a list 12, 8, 6, 4, 2", () -> {
            int[][] most = {{96, 12}, {12, 12}, {11, 8}, {9, 8}, {8, 8}, {7, 6}, {6, 6}, {5, 4}, {4, 4}, {3, 2}, {2, 2}};
            for (int[] m : most) {
                due("one PIECE of " + m[0] + " at most", still(1).loudest(m[0], 0), m[1]);
            }
            WhipCrack w = still(1);
            Check.plait(w, "piece 1 strands 16;");
            due("not 16, that it has", w.loudest(96, 0), 12);
        });
        sentence("none more than the one ahead", () -> {
            // With 2 and 8 STRANDS it would be 23.
            WhipCrack w = whip("piece 1 strands 1;piece 1 strands 1 stuff 1;", "go 0 50 for 1;", 0, 0);
            due("the greatest SPEED", w.loudest(96, NONE), 22);
            dues("as many as the one ahead", loudestRow(w, 96), 6, 6);
            dues("like ones", loudestRow(still(3), 26), 12, 12, 2);
        });
        sentence("with no more than so many in all", () -> {
            dues("96", loudestRow(still(8), 96), 12, 12, 12, 12, 12, 12, 12, 12);
            dues("95", loudestRow(still(8), 95), 12, 12, 12, 12, 12, 12, 12, 8);
            dues("16", loudestRow(still(8), 16), 2, 2, 2, 2, 2, 2, 2, 2);
            dues("17", loudestRow(still(8), 17), 2, 2, 2, 2, 2, 2, 2, 2);
            dues("18", loudestRow(still(8), 18), 4, 2, 2, 2, 2, 2, 2, 2);
            due("15", still(8).loudest(15, 0), NONE);
            dues("30 of four", loudestRow(still(4), 30), 12, 12, 4, 2);
            dues("29 of four", loudestRow(still(4), 29), 12, 12, 2, 2);
        });
        sentence("the greatest SPEED of JOINTS from 1 on in all TICKS is greatest (GIVEN as it is)", () -> {
            WhipCrack w = light("go 45 0 for 1;");
            due("THE HAND is fast, JOINT 1 is not", w.loudest(12, NONE), 0);
            Check.way(w, "go -100 0 for 1;hold 1;");
            due("in TICK 1", w.loudest(12, NONE), 100);
            Check.way(w, "hold 30;hold 29;go -100 0 for 1;");
            due("in TICK 60", w.loudest(12, NONE), 100);
            w.give(10);
            due("GIVEN 10", w.loudest(12, NONE), 10);
            w.give(200);
            due("GIVEN 200", w.loudest(12, NONE), 200);
        });
        sentence("of like ones the first (by STRANDS from the first PIECE on, more ahead)", () -> {
            dues("all like", loudestRow(still(2), 14), 12, 2);
            dues("all like", loudestRow(still(2), 13), 8, 4);
            dues("all like", loudestRow(still(2), 12), 8, 4);
            dues("all like", loudestRow(still(2), 11), 8, 2);
            dues("all like", loudestRow(still(2), 4), 2, 2);
        });
        sentence("ENDS: PIECES at which STRANDS become fewer", () -> {
            WhipCrack w = new WhipCrack();
            dues("at first", pieces(w, 5), 0, 1, 1, 1);
            Check.plait(w, "piece 2 strands 16;piece 1 strands 15;piece 1 strands 15;piece 1 strands 1;");
            dues("as many is not fewer", pieces(w, 5), 0, 0, 1, 0, 1);
        });
    }

    private void loudestCall() {
        sentence("LOUDEST PLAIT with s STRANDS in all at most (1 .. 96): i = NONE its greatest SPEED, else STRANDS of PIECE i "
            + "(NONE: there is none such); NONE: there is no such row. OUTSIDE, NOT: more than 8 PIECES.", () -> {
            due("s 1", still(1).loudest(1, NONE), NONE);
            due("s 1", still(1).loudest(1, 0), NONE);
            due("s 2", still(1).loudest(2, NONE), 0);
            due("s 96", still(1).loudest(96, NONE), 0);
            due("PIECE 0", still(2).loudest(96, 0), 12);
            due("PIECE 1", still(2).loudest(96, 1), 12);
            due("no PIECE 2", still(2).loudest(96, 2), NONE);
            due("no PIECE -2", still(2).loudest(96, -2), NONE);
            due("no PIECE most", still(2).loudest(96, MOST), NONE);
            due("no PIECE least", still(2).loudest(96, LEAST), NONE);
            for (int s : new int[] {0, 97, -1, LEAST, MOST}) {
                refused("loudest(" + s + ", 0)", x -> x.loudest(s, 0), OUTSIDE);
                refused("loudest(" + s + ", NONE)", x -> x.loudest(s, NONE), OUTSIDE);
                refused(() -> usedWith("piece 9 strands 2;"), "loudest(" + s + ", 0) of nine", x -> x.loudest(s, 0), OUTSIDE);
            }
            refused(() -> usedWith("piece 9 strands 2;"), "loudest(96, NONE) of nine", x -> x.loudest(96, NONE), NOT);
            asks("loudest(96, NONE)", x -> x.loudest(96, NONE));
            asks("loudest(10, 4)", x -> x.loudest(10, 4));
        });
    }

    // ------------------------------------------------------------ aims

    /** THE TIP goes 50, -50, -150 along y = 0, THE HAND 0, -100, -200, and both stay. */
    private WhipCrack leftward() {
        return light("go -100 0 for 1;go -100 0 for 1;hold 1;");
    }

    private void aims() {
        sentence("how near THE TIP comes to it (the ROOT; the least), in which TICK (the first)", () -> {
            WhipCrack w = leftward();
            dues("THE TIP", xs(w, 1), 50, -50, -150, -150);
            dues("at it", new long[] {w.aim(-50, 0, 0, 3, 0), w.aim(-50, 0, 0, 3, 1)}, 0, 1);
            dues("as near in two, one behind the other", new long[] {w.aim(-150, 3, 0, 3, 0), w.aim(-150, 3, 0, 3, 1)}, 3, 2);
            dues("as near from both sides", new long[] {w.aim(0, 0, 0, 3, 0), w.aim(0, 0, 0, 3, 1)}, 50, 0);
            dues("a hair nearer", new long[] {w.aim(-1, 0, 0, 3, 0), w.aim(-1, 0, 0, 3, 1)}, 49, 1);
            due("THE HAND is not THE TIP", w.aim(-200, 0, 0, 3, 0), 50);
            // 8 and 9 of squares: the ROOT of 8 is 2.
            dues("the ROOT", new long[] {w.aim(-52, 2, 1, 1, 0), w.aim(-53, 0, 1, 1, 0)}, 2, 3);
        });
        sentence("how near any JOINT comes to that in all TICKS", () -> {
            WhipCrack w = leftward();
            due("THE HAND in the last TICK", w.alone(-207, 0), 7);
            due("THE TIP at rest", w.alone(57, 0), 7);
            due("between", w.alone(-75, 0), 25);
            WhipCrack last = light("hold 1;go -100 0 for 1;");
            due("THE HAND in the last TICK alone", last.alone(-100, 7), 7);
            due("THE TIP in the last TICK alone", last.alone(-50, 7), 7);
            // It falls by 50, THE HAND with it.
            WhipCrack below = whip(SILK, "go 0 -50 for 1;", 50, 50);
            dues("below", new long[] {below.alone(50, -50), below.alone(50, -51), below.alone(0, -50), below.alone(50, 49)}, 0, 1, 0, 49);
        });
        sentence("BEST AIM: GIVEN (10, 20, .. 200) with which it comes nearest, so that no JOINT comes nearer than r to the other; "
            + "of like ones the least", () -> {
            // THE TIP is at 50 less GIVEN in TICK 1 and stays there.
            WhipCrack w = light("go -100 0 for 1;hold 1;");
            due("at 10", w.bestAim(40, 0, 0), 10);
            due("beyond 10", w.bestAim(5000, 0, 0), 10);
            due("at 200", w.bestAim(-150, 0, 0), 200);
            due("beyond 200", w.bestAim(-5000, 0, 0), 200);
            due("between 100 and 110, as near", w.bestAim(-55, 0, 0), 100);
            due("between 100 and 110, a hair nearer to 110", w.bestAim(-56, 0, 0), 110);
            w.put(0, -100, 30);
            due("THE HAND comes just as near as it may", w.bestAim(-50, 0, 30), 100);
            due("THE HAND comes a hair too near", w.bestAim(-50, 0, 31), 90);
        });
    }

    private void aimCalls() {
        sentence("AIM at a place (x, y: -5000 .. 5000) in TICKS from a to b (0 .. as many as there are): what = 0 how near, "
            + "1 in which TICK. OUTSIDE.", () -> {
            WhipCrack w = leftward();
            dues("TICK 0 alone", new long[] {w.aim(-150, 0, 0, 0, 0), w.aim(-150, 0, 0, 0, 1)}, 200, 0);
            dues("TICK 3 alone", new long[] {w.aim(-150, 0, 3, 3, 0), w.aim(-150, 0, 3, 3, 1)}, 0, 3);
            dues("all", new long[] {w.aim(50, 0, 0, 3, 1), w.aim(-150, 0, 0, 3, 1)}, 0, 2);
            dues("from 1 to 2", new long[] {w.aim(50, 0, 1, 2, 1), w.aim(-150, 0, 1, 2, 1)}, 1, 2);
            for (int v : new int[] {-5000, 5000}) {
                due("aim(" + v + ", 0, ..)", w.aim(v, 0, 0, 0, 0), Math.abs(v - 50));
                due("aim(50, " + v + ", ..)", w.aim(50, v, 0, 0, 0), 5000);
            }
            for (int v : new int[] {-5001, 5001, LEAST, MOST}) {
                refused("aim(" + v + ", 0, ..)", x -> x.aim(v, 0, 0, 8, 0), OUTSIDE);
                refused("aim(0, " + v + ", ..)", x -> x.aim(0, v, 0, 8, 0), OUTSIDE);
            }
            int[][] ticks = {{-1, 8}, {0, 9}, {9, 9}, {0, -1}, {-1, -1}, {5, 4}, {8, 0}, {LEAST, 8}, {0, MOST}, {MOST, MOST}};
            for (int[] t : ticks) {
                refused("aim(0, 0, " + t[0] + ", " + t[1] + ", 0)", x -> x.aim(0, 0, t[0], t[1], 0), OUTSIDE);
            }
            for (int what : new int[] {-1, 2, LEAST, MOST}) {
                refused("aim(0, 0, 0, 8, " + what + ")", x -> x.aim(0, 0, 0, 8, what), OUTSIDE);
            }
            asks("aim(0, 0, 0, 8, 1)", x -> x.aim(0, 0, 0, 8, 1));
        });
        sentence("How near any JOINT (0, too) comes to a place in all TICKS (0, too). OUTSIDE.", () -> {
            WhipCrack w = leftward();
            due("JOINT 0 in TICK 0", w.alone(0, 9), 9);
            due("JOINT 0 in TICK 2", w.alone(-200, 9), 9);
            due("JOINT 1 in TICK 0", w.alone(50, 9), 9);
            due("JOINT 1 in TICK 2", w.alone(-150, 9), 9);
            dues("corners", new long[] {w.alone(5000, 5000), w.alone(-5000, -5000), w.alone(5000, -5000), w.alone(-5000, 5000)},
                7035, 6931, 7035, 6931);
            for (int v : new int[] {-5001, 5001, LEAST, MOST}) {
                refused("alone(" + v + ", 0)", x -> x.alone(v, 0), OUTSIDE);
                refused("alone(0, " + v + ")", x -> x.alone(0, v), OUTSIDE);
            }
            asks("alone(0, 0)", x -> x.alone(0, 0));
        });
        sentence("BEST AIM at a place in all TICKS from 1 on, the other one THE EAR, r 0 .. 9999; NONE. OUTSIDE.", () -> {
            WhipCrack w = light("go -100 0 for 1;hold 1;");
            // To the left and back: with 100 THE TIP comes back to 50 just where it was, with all others it does not.
            WhipCrack back = light("go -100 0 for 1;go 200 0 for 1;");
            due("TICK 0 does not count", back.bestAim(50, 0, 0), 100);
            Check.way(w, "hold 1;go -100 0 for 1;");
            due("TICK 1 counts: all as near", w.bestAim(50, 0, 0), 10);
            due("the last TICK counts", w.bestAim(-150, 0, 0), 200);
            // THE HAND at rest is just 7071 from the corner; the others are further.
            w.put(0, 5000, -5000);
            Check.way(w, "go -100 0 for 1;");
            Check.plait(w, "length 20;" + SILK);
            due("nearest is THE TIP at rest", w.alone(5000, -5000), 7056);
            due("r is just so much", w.bestAim(0, 0, 7056), 20);
            due("r is a hair more", w.bestAim(0, 0, 7057), NONE);
            due("r 9999", w.bestAim(0, 0, 9999), NONE);
            for (int v : new int[] {-5000, 5000}) {
                due("bestAim(" + v + ", " + v + ", 0) is no refusal", w.bestAim(v, v, 0) > 0 ? 1 : 0, 1);
            }
            for (int v : new int[] {-5001, 5001, LEAST, MOST}) {
                refused("bestAim(" + v + ", 0, 0)", x -> x.bestAim(v, 0, 0), OUTSIDE);
                refused("bestAim(0, " + v + ", 0)", x -> x.bestAim(0, v, 0), OUTSIDE);
            }
            for (int r : new int[] {-1, 10000, LEAST, MOST}) {
                refused("bestAim(0, 0, " + r + ")", x -> x.bestAim(0, 0, r), OUTSIDE);
            }
            asks("bestAim(0, 0, 0)", x -> x.bestAim(0, 0, 0));
            asks("bestAim(0, 0, 9999)", x -> x.bestAim(0, 0, 9999));
        });
    }

    // ------------------------------------------------------------ two

    /** At rest THE HAND is at 0 and THE TIP at 50; from TICK 1 on at -100 and -50. The second one is at D less that. */
    private WhipCrack jerked() {
        return light("go -100 0 for 1;hold 2;");
    }

    private void two() {
        sentence("a second whip of the same PLAIT and WAY with its own GIVEN, its x turned about (D less it)", () -> {
            // THE HAND goes to (-100, 30), the second's to (D and 100, 30): y is not turned about.
            WhipCrack w = light("go -100 30 for 1;hold 2;");
            int[][] met = {{-200, 0}, {-199, 1}, {-201, 1}, {0, 0}, {1, 1}, {100, 0}, {101, 1}};
            for (int[] m : met) {
                due("D " + m[0], w.close(m[0], 100, 0), m[1]);
            }
            due("its own GIVEN: at (D and 200, 60)", w.close(-300, 200, 0), 30);
            due("GIVEN stays", w.count(9), 100);
        });
        sentence("that begins o TICKS later (0 .. 30; it is at rest ahead; who is done stays as it is then)", () -> {
            WhipCrack w = jerked();
            // With GIVEN 200 the second's JOINTS go from D and D - 50 to D and 200, D and 150.
            due("in TICK 1 they meet", w.close(-300, 200, 0), 0);
            WhipCrack once = light("go -100 0 for 1;");
            due("o 0: past one another between TICKS 0 and 1", once.close(-130, 200, 0), 70);
            due("o 1: the second is at rest when the first is done", once.close(-130, 200, 1), 30);
            due("o 30: at rest for long, then past it", once.close(-130, 10, 30), 20);
            due("the first stays where it is", once.close(-1000, 100, 0), 800);
            due("the first stays where it is for 30", once.close(-1000, 100, 30), 800);
            due("the second one's last place", once.close(-1000, 200, 30), 700);
        });
        sentence("CLOSE is the least distance (the ROOT) of a JOINT of the one to one of the other, both THE HANDS too, "
            + "in a TICK from 0 to all TICKS and o", () -> {
            WhipCrack w = jerked();
            due("both THE TIPS in TICK 0", w.close(1000, 100, 0), 900);
            due("both THE HANDS in the last TICK", w.close(-1000, 100, 0), 800);
            due("both THE HANDS behind all TICKS and o", w.close(-1000, 100, 30), 800);
            due("THE TIP and THE HAND in TICK 0", light("hold 1;").close(50, 100, 0), 0);
            due("both THE HANDS at rest", light("hold 1;").close(-7, 100, 0), 7);
            // In TICK 1 THE HANDS are at (-10, 4) and at (-19 and 1, 0): 64 and 16 are a square less 1.
            due("the ROOT of 80", light("go -10 4 for 1;").close(-19, 10, 0), 8);
            due("the ROOT of 100", light("go -10 6 for 1;").close(-19, 10, 0), 10);
            due("both THE HANDS as high", light("go -10 4 for 1;").close(-19, 100, 0), 1);
            due("the ROOT of 81", light("go -10 0 for 1;").close(-20, 10, 0), 9);
        });
        sentence("RHYTHM: the o (0 .. 30) by which the first CRACK of the second comes just h TICKS behind the first one of the first, "
            + "if CLOSE is c or more then", () -> {
            WhipCrack w = jerked();
            w.law(PACE, 100);
            int[][] behind = {{0, 0}, {1, 1}, {30, 30}, {31, NONE}, {-1, NONE}};
            for (int[] b : behind) {
                due("h " + b[0], w.rhythm(1000, 100, b[0], 0), b[1]);
            }
            due("CLOSE then", w.close(1000, 100, 5), 900);
            due("c is CLOSE", w.rhythm(1000, 100, 5, 900), 5);
            due("c is a hair more", w.rhythm(1000, 100, 5, 901), NONE);
            // The first one cracks in TICKS 3 and 5, the second, with twice as much, in TICKS 1, 3 and 5.
            WhipCrack later = light("go -50 0 for 1;hold 1;go -100 0 for 1;hold 1;go -100 0 for 1;");
            later.law(PACE, 100);
            due("CRACKS", later.crack(NONE, 0), 2);
            due("the first CRACK of the first", later.crack(0, 0), 3);
            int[][] by = {{-3, NONE}, {-2, 0}, {0, 2}, {28, 30}, {29, NONE}};
            for (int[] b : by) {
                due("h " + b[0], later.rhythm(1000, 200, b[0], 0), b[1]);
            }
        });
    }

    private void twoCalls() {
        sentence("CLOSE: D (-5000 .. 5000), GIVEN of the second (10 .. 200), o (0 .. 30). OUTSIDE.", () -> {
            WhipCrack w = jerked();
            due("D 5000", w.close(5000, 100, 0), 4900);
            due("D -5000", w.close(-5000, 100, 0), 4800);
            due("GIVEN 10", w.close(-1000, 10, 0), 890);
            due("GIVEN 200", w.close(-1000, 200, 0), 700);
            due("o 30", w.close(-1000, 200, 30), 700);
            for (int d : new int[] {-5001, 5001, LEAST, MOST}) {
                refused("close(" + d + ", 100, 0)", x -> x.close(d, 100, 0), OUTSIDE);
            }
            for (int g : new int[] {9, 201, 0, -100, LEAST, MOST}) {
                refused("close(0, " + g + ", 0)", x -> x.close(0, g, 0), OUTSIDE);
            }
            for (int o : new int[] {-1, 31, LEAST, MOST}) {
                refused("close(0, 100, " + o + ")", x -> x.close(0, 100, o), OUTSIDE);
            }
            asks("close(0, 200, 30)", x -> x.close(0, 200, 30));
        });
        sentence("RHYTHM by h (-60 .. 60), c (0 .. 9999); NONE (one does not crack, too). OUTSIDE.", () -> {
            // With GIVEN 100 the first CRACK is in TICK 31, with 200 in TICK 1.
            WhipCrack w = light("go -100 0 for 1;hold 29;go -200 0 for 1;");
            w.give(200);
            due("h 60", w.rhythm(1000, 100, 60, 0), 30);
            due("h 59", w.rhythm(1000, 100, 59, 0), 29);
            // With GIVEN 100 it is in TICK 60: no o can make the second come 60 ahead of it.
            WhipCrack last = light("go -100 0 for 1;hold 28;hold 30;go -200 0 for 1;");
            due("h -59", last.rhythm(1000, 200, -59, 0), 0);
            due("h -60", last.rhythm(1000, 200, -60, 0), NONE);
            WhipCrack both = jerked();
            both.law(PACE, 100);
            due("c 5000, D 5000 on the other side", both.rhythm(-5000, 100, 0, 4800), 0);
            due("c is a hair more", both.rhythm(-5000, 100, 0, 4801), NONE);
            due("c 9999", both.rhythm(-5000, 100, 0, 9999), NONE);
            due("D 5000", both.rhythm(5000, 100, 0, 4900), 0);
            due("the second does not crack", both.rhythm(1000, 99, 0, 0), NONE);
            both.give(99);
            due("the first does not crack", both.rhythm(1000, 100, 0, 0), NONE);
            due("neither cracks", both.rhythm(1000, 99, 0, 0), NONE);
            for (int d : new int[] {-5001, 5001, LEAST, MOST}) {
                refused("rhythm(" + d + ", 100, 0, 0)", x -> x.rhythm(d, 100, 0, 0), OUTSIDE);
            }
            for (int g : new int[] {9, 201, LEAST, MOST}) {
                refused("rhythm(0, " + g + ", 0, 0)", x -> x.rhythm(0, g, 0, 0), OUTSIDE);
            }
            for (int h : new int[] {-61, 61, LEAST, MOST}) {
                refused("rhythm(0, 100, " + h + ", 0)", x -> x.rhythm(0, 100, h, 0), OUTSIDE);
            }
            for (int c : new int[] {-1, 10000, LEAST, MOST}) {
                refused("rhythm(0, 100, 0, " + c + ")", x -> x.rhythm(0, 100, 0, c), OUTSIDE);
            }
            asks("rhythm(0, 200, 0, 0)", x -> x.rhythm(0, 200, 0, 0));
        });
    }
}
