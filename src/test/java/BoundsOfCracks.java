/** Section 4 of the document: cracks, the ear, the post, kinds of throws; and promises 14 to 18. */
final class BoundsOfCracks extends Bounds {
    BoundsOfCracks(Sentences doc) {
        super(doc);
    }

    void run() {
        cracks();
        hearing();
        quarters();
        turning();
        kinds();
        calls();
    }

    private static long[] crack(WhipCrack w, int i, int... whats) {
        long[] all = new long[whats.length];
        for (int j = 0; j < all.length; j++) {
            all[j] = w.crack(i, whats[j]);
        }
        return all;
    }

    private WhipCrack paced(String way, int pace) {
        return whip(SILK, way, 50, 0, 3, pace);
    }

    /** Two PIECES of calf: JOINT 2 is bent by 25 in TICK 1, by 55 in TICK 2; JOINT 1 is pulled by 10 in TICK 2. */
    private WhipCrack bent() {
        return whip("piece 2 strands 16 stuff 1;", "go 50 0 for 1;go 60 0 for 1;", 0, 0, 3, 10);
    }

    // ------------------------------------------------------------ 4

    private void cracks() {
        sentence("JOINT k (1 and on) whose SPEED is PACE or more in a TICK, and was not in the one before", () -> {
            due("SPEED 59, PACE 60", paced("go -59 0 for 1;", 60).crack(NONE, 0), 0);
            due("SPEED 60, PACE 60", paced("go -60 0 for 1;", 60).crack(NONE, 0), 1);
            due("SPEED 61, PACE 60", paced("go -61 0 for 1;", 60).crack(NONE, 0), 1);
            WhipCrack hand = paced("go 45 0 for 1;", 10);
            due("THE HAND alone is fast", hand.crack(NONE, 0), 0);
            dues("its KIND, near, the second of two", new long[] {hand.kind(), hand.near(), hand.rhythm(5000, 100, 0, 0)}, 0, NONE, NONE);
            // With GIVEN 200 THE HAND is at 90, 40 beyond JOINT 1: that still stays.
            due("no LEAST HAND", hand.leastHand(), NONE);
            due("fast in two TICKS", paced("go -60 0 for 1;go -90 0 for 1;", 60).crack(NONE, 0), 1);
            WhipCrack again = paced("go -60 0 for 1;go -59 0 for 1;go -60 0 for 1;", 60);
            due("slower between", again.crack(NONE, 0), 2);
            dues("the second one", crack(again, 1, 0, 1, 6), 3, 1, 60);
            due("fast in the last TICK alone", paced("hold 30;hold 29;go -60 0 for 1;", 60).crack(0, 0), 60);
        });
        sentence("in order of TICKS, then JOINTS", () -> {
            WhipCrack w = bent();
            dues("behind TICK 1", row(w, 1), 50, 50, 75);
            dues("behind TICK 2", row(w, 2), 110, 60, 20);
            due("how many", w.crack(NONE, 0), 2);
            dues("the earlier TICK", crack(w, 0, 0, 1, 6), 1, 2, 25);
            dues("the later TICK", crack(w, 1, 0, 1, 6), 2, 1, 10);
            WhipCrack all = whip("piece 3 strands 1 stuff 2;", "go -100 0 for 1;", 0, 0);
            all.law(PACE, 100);
            for (int k = 1; k <= 3; k++) {
                dues("JOINT " + k, crack(all, k - 1, 0, 1, 6), 1, k, 100);
            }
        });
        sentence("It is OF THE LOOP (1), if k or k - 1 is LOOP of that TICK; else OF THE TIP (0), if it is THE TIP; else OTHER (2)", () -> {
            // JOINT 1 is LOOP in TICK 2, when all three move: it, the one behind it, and the one behind that.
            WhipCrack w = whip("piece 3 strands 3 stuff 1;", "go 125 0 for 2;", 0, 0, 3, 10);
            dues("behind TICK 1", row(w, 1), 62, 50, 96, 146);
            dues("behind TICK 2", row(w, 2), 125, 75, 84, 134);
            due("LOOP", w.loop(2), 1);
            dues("k is LOOP", crack(w, 0, 0, 1, 2), 2, 1, 1);
            dues("k - 1 is LOOP", crack(w, 1, 0, 1, 2), 2, 2, 1);
            dues("k - 2 is LOOP", crack(w, 2, 0, 1, 2), 2, 3, 0);
            // JOINT 2 is LOOP, JOINT 1 moves by 50.
            WhipCrack ahead = whip("piece 3 strands 1 stuff 3;", "go 150 0 for 1;", 0, 0, 3, 50);
            due("LOOP", ahead.loop(1), 2);
            dues("k + 1 is LOOP", crack(ahead, 0, 0, 1, 2), 1, 1, 2);
            WhipCrack tip = whip("piece 2 strands 16 stuff 1;", "go 60 0 for 1;", 0, 0, 3, 10);
            due("LOOP", tip.loop(1), 1);
            dues("THE TIP, k - 1 is LOOP", crack(tip, 0, 0, 1, 2), 1, 2, 1);
            WhipCrack straight = whip("piece 2 strands 1 stuff 2;", "go -100 0 for 1;", 0, 0, 3, 100);
            due("no LOOP", straight.loop(1), NONE);
            dues("no LOOP, not THE TIP", crack(straight, 0, 0, 1, 2), 1, 1, 2);
            dues("no LOOP, THE TIP", crack(straight, 1, 0, 1, 2), 1, 2, 0);
            dues("one PIECE", crack(paced("go -100 0 for 1;", 100), 0, 0, 1, 2), 1, 1, 0);
        });
    }

    private void hearing() {
        sentence("An EAR (x, y; -5000 .. 5000; 0, 500 at first)", () -> {
            // THE TIP cracks at (0, 0): from there THE EAR is just as far as it is told.
            WhipCrack w = paced("go -50 0 for 1;", 50);
            due("at first", w.near(), 500);
            w.put(0, 0, 500);
            due("put there", w.near(), 500);
            // 32 times 32 and 500 times 500 have the ROOT 501, 31 times 31 and that have 500.
            due("32 to the left of it, x 0 at first", paced("go -82 0 for 1;", 50).crack(0, 5), 501);
            due("31 to the left of it, x 0 at first", paced("go -81 0 for 1;", 50).crack(0, 5), 500);
            due("32 to the right of it, x 0 at first", paced("go -18 0 for 1;", 10).crack(0, 5), 501);
            due("31 to the right of it, x 0 at first", paced("go -19 0 for 1;", 10).crack(0, 5), 500);
            int[][] edges = {{-5000, 0}, {5000, 0}, {0, -5000}, {0, 5000}};
            for (int[] e : edges) {
                due("put(0, " + e[0] + ", " + e[1] + ")", w.put(0, e[0], e[1]), 1);
                due("there", w.near(), 5000);
            }
            due("a corner", w.put(0, -5000, -5000), 1);
            due("there", w.near(), 7071);
        });
        sentence("FAR is the ROOT of squares from the JOINT's place then", () -> {
            WhipCrack w = paced("go -50 0 for 1;go -100 0 for 1;", 50);
            int[][] fars = {{0, 0, 0}, {1, 1, 1}, {2, 2, 2}, {3, 0, 3}, {-3, -1, 3}, {8, 4, 8}, {9, 0, 9}, {-4802, 98, 4802}, {4803, 0, 4803}};
            for (int[] f : fars) {
                w.put(0, f[0], f[1]);
                due("FAR of " + f[0] + ", " + f[1], w.crack(0, 5), f[2]);
            }
            // It falls by 50, THE HAND with it: the CRACK is at (50, -50).
            WhipCrack below = whip(SILK, "go 0 -50 for 1;", 50, 50, 3, 50);
            int[][] places = {{50, -50, 0}, {50, -51, 1}, {50, -49, 1}, {50, 50, 100}, {-50, -50, 100}};
            for (int[] p : places) {
                below.put(0, p[0], p[1]);
                dues("FAR and near of " + p[0] + ", " + p[1], new long[] {below.crack(0, 5), below.near()}, p[2], p[2]);
            }
        });
        sentence("HEARD it is in the TICK of it and FAR / PACE", () -> {
            // THE TIP is at (40, 0) in TICK 1; PACE is 10.
            WhipCrack w = paced("go -10 0 for 1;", 10);
            int[][] heard = {{0, 1}, {9, 1}, {10, 2}, {19, 2}, {20, 3}, {5000, 501}};
            for (int[] h : heard) {
                w.put(0, 40, h[0]);
                due("FAR " + h[0], w.crack(0, 3), h[1]);
            }
            WhipCrack late = paced("hold 30;hold 29;go -10 0 for 1;", 10);
            late.put(0, 40, 10);
            due("in TICK 60", late.crack(0, 3), 61);
        });
        sentence("LOUD: SPEED times WEIGHT times 1000 / (FAR and 1)", () -> {
            WhipCrack w = paced("go -10 0 for 1;", 10);
            int[][] loud = {{0, 10000}, {1, 5000}, {2, 3333}, {4999, 2}};
            for (int[] l : loud) {
                w.put(0, 40, l[0]);
                due("FAR " + l[0], w.crack(0, 4), l[1]);
            }
            WhipCrack most = whip("piece 1 strands 16 stuff 1;", "go -999 0 for 1;", 0, 0);
            most.give(200);
            most.put(0, -1948, 0);
            due("the loudest: 1998 times 80 times 1000", most.crack(0, 4), 159840000);
        });
    }

    /** TURNS of a fall straight down by one hair in each TICK, from where THE TIP is so seen from THE POST. */
    private void fall(int ticks, int fromX, int fromY, int want) {
        WhipCrack w = whip(SILK, "hold " + ticks + ";", 50, 1);
        for (int t = 0; t <= ticks; t++) {
            due("y", w.joint(1, t, 1), -t);
        }
        w.put(1, 50 - fromX, -fromY);
        due(ticks + " down from " + fromX + ", " + fromY, w.turns(), 100 + want);
    }

    /** TURNS of a jump by (-37, 151), to where THE TIP is so seen from THE POST. */
    private void lift(int toX, int toY, int want) {
        WhipCrack w = light("go 0 200 for 1;");
        dues("lifted", new long[] {w.joint(1, 1, 0), w.joint(1, 1, 1)}, 13, 151);
        w.put(1, 13 - toX, 151 - toY);
        due("up to " + toX + ", " + toY, w.turns(), 100 + want);
    }

    /** TURNS of a jump to the left by 100, to where THE TIP is so seen from THE POST. */
    private void jump(int toX, int toY, int want) {
        WhipCrack w = light("go -100 0 for 1;");
        w.put(1, -50 - toX, -toY);
        due("to the left to " + toX + ", " + toY, w.turns(), 100 + want);
    }

    private void quarters() {
        sentence("A POST (x, y; 300, 0 at first)", () -> {
            String plait = "piece 7 strands 1 stuff 2;", way = "go -50 -25 for 1;go 150 -50 for 1;go -100 -25 for 2;";
            WhipCrack w = whip(plait, way, 50, 0);
            due("at first", w.turns(), 98);
            int[][] beside = {{301, 0}, {299, 0}, {300, 1}, {300, -1}};
            for (int[] p : beside) {
                w.put(1, p[0], p[1]);
                due("about " + p[0] + ", " + p[1] + " otherwise", w.turns() != 98 ? 1 : 0, 1);
            }
            w.put(1, 300, 0);
            due("put there", w.turns(), 98);
            for (int v : new int[] {-5000, 5000}) {
                due("put(1, " + v + ", 0)", w.put(1, v, 0), 1);
                due("put(1, 0, " + v + ")", w.put(1, 0, v), 1);
            }
        });
        sentence("TURNS: each TICK (0 too) THE TIP is in a quarter as seen from it", () -> {
            // TICK 0 is in quarter 0, TICK 1 in quarter 3.
            fall(1, 1, 0, -1);
            fall(2, 1, 0, -1);
            fall(1, 1, -1, 0);
        });
        sentence("0 x more than it and y not less", () -> {
            fall(1, 1, 1, 0);
            fall(1, 1, 0, -1);
            jump(1, 0, 0);
            jump(1, 1, 0);
            jump(0, 1, 1);
            // From quarter 3, the one before it.
            lift(1, 0, 1);
            lift(1, 1, 1);
            lift(1, -1, 0);
            lift(0, 1, 0);
            lift(0, 0, 0);
        });
        sentence("1 x not more and y more", () -> {
            jump(0, 1, 1);
            jump(-1, 1, 1);
            fall(1, 0, 2, 0);
            fall(1, -1, 2, 0);
            fall(1, -1, 1, 1);
        });
        sentence("2 x less and y not more", () -> {
            fall(1, -1, 1, 1);
            fall(1, -1, 0, 0);
            jump(-1, 0, 0);
            jump(-1, -1, -1);
        });
        sentence("3 x not less and y less (at it: as before, 0 at first)", () -> {
            jump(0, -1, 0);
            jump(1, -1, 0);
            fall(1, 0, -1, 0);
            // At it first: as in quarter 0, so that the fall goes to the one before that.
            fall(1, 0, 0, -1);
            // From quarter 1 down to it: quarter 1 as before, then the one across.
            fall(1, 0, 1, 0);
            fall(2, 0, 1, 0);
            jump(0, 0, 0);
        });
    }

    private void turning() {
        sentence("from one TICK to the next 1 more, if the quarter is the next one, 1 less, if it is the one before it, else none", () -> {
            fall(1, -1, 1, 1);
            jump(-1, -1, -1);
            jump(0, 1, 1);
            due("none", light("hold 1;").turns(), 100);
            // Across: from quarter 0 to quarter 2, from 1 to 3.
            jump(-1, 0, 0);
            fall(2, 0, 1, 0);
            // About the end: from quarter 0 to quarter 3 one less, from 3 to 0 one more.
            fall(1, 1, 0, -1);
            lift(13, 51, 1);
        });
    }

    /** A strand of 20 that is led about (75, 75) by so many sides of a square, to the left or to the right. */
    private WhipCrack round(int sides, boolean isLeft) {
        String[] left = {"go 150 0 for 3;", "go 0 150 for 3;", "go -150 0 for 3;", "go 0 -150 for 3;"};
        String[] right = {"go 0 150 for 3;", "go 150 0 for 3;", "go 0 -150 for 3;", "go -150 0 for 3;"};
        StringBuilder way = new StringBuilder();
        for (int i = 0; i < sides; i++) {
            way.append(isLeft ? left[i] : right[i]);
        }
        WhipCrack w = whip("length 20;piece 1 strands 1;", way.toString());
        w.put(1, 75, 75);
        return w;
    }

    private void kinds() {
        sentence("5 WRAPPED: TURNS are 4 or more, or -4 or less", () -> {
            due("three to the left", round(3, true).turns(), 103);
            due("KIND", round(3, true).kind(), 0);
            due("four to the left", round(4, true).turns(), 104);
            due("KIND", round(4, true).kind(), 5);
            due("three to the right", round(3, false).turns(), 97);
            due("KIND", round(3, false).kind(), 0);
            due("four to the right", round(4, false).turns(), 96);
            due("KIND", round(4, false).kind(), 5);
            WhipCrack cracked = round(4, true);
            cracked.law(PACE, 10);
            due("it cracks too", cracked.crack(NONE, 0) > 0 ? 1 : 0, 1);
            due("ahead of all others", cracked.kind(), 5);
        });
        sentence("4 TWICE: two CRACKS 3 TICKS or more apart", () -> {
            due("2 apart", paced("go -60 0 for 1;hold 1;go -60 0 for 1;", 60).kind(), 3);
            due("3 apart", paced("go -60 0 for 1;hold 2;go -60 0 for 1;", 60).kind(), 4);
            due("4 apart", paced("go -60 0 for 1;hold 3;go -60 0 for 1;", 60).kind(), 4);
            due("2 and 2 apart", paced("times 3(go -60 0 for 1;hold 1;)", 60).kind(), 4);
            due("59 apart", paced("go -60 0 for 1;hold 30;hold 28;go -60 0 for 1;", 60).kind(), 4);
        });
        sentence("3 CRACKED", () -> {
            due("one CRACK", paced("go -60 0 for 1;", 60).kind(), 3);
            due("none", paced("go -59 0 for 1;", 60).kind(), 0);
            due("two in one TICK", whip("piece 2 strands 1 stuff 2;", "go -100 0 for 1;", 0, 0, 3, 100).kind(), 3);
            WhipCrack over = over(102);
            due("none", over.kind(), 2);
            over.law(PACE, 50);
            due("ahead of OVERHEAD", over.kind(), 3);
        });
        sentence("2 OVERHEAD: in some TICK a JOINT is higher than 2 LENGTHS above THE HAND", () -> {
            // THE HAND goes down; JOINTS 7 to 12 are so far from it that they are pulled by a hair, the others by more.
            due("y of JOINT 12", over(101).joint(12, 1, 1), -1);
            due("just 2 LENGTHS above", over(101).kind(), 0);
            due("y of JOINT 12", over(102).joint(12, 1, 1), -1);
            due("a hair more", over(102).kind(), 2);
            // Stiff PIECES: THE TIP is just 2 LENGTHS above, but JOINT 4 is bent up higher.
            WhipCrack stiff = whip("piece 12 strands 16 stuff 1;", "go 0 -100 for 1;", 50, 0, 1, 2000);
            dues("y of JOINT 4 and of THE TIP", new long[] {stiff.joint(4, 1, 1), stiff.joint(12, 1, 1)}, 17, 0);
            due("a JOINT that is not THE TIP", stiff.kind(), 2);
            // Of three PIECES only THE TIP can be so high: THE HAND goes to below it, and it is pulled by 2 hairs.
            WhipCrack three = whip("length 20;piece 3 strands 1 stuff 2;", "go 60 -50 for 1;", 50, 0, 3, 2000);
            dues("y", new long[] {three.joint(0, 1, 1), three.joint(1, 1, 1), three.joint(2, 1, 1), three.joint(3, 1, 1)}, -50, -32, -14, -2);
            due("THE TIP alone", three.kind(), 2);
            WhipCrack looped = whip("piece 12 strands 1 stuff 2;", "go 51 0 for 1;go -51 -102 for 1;", 50, 0, 1, 2000);
            due("a LOOP too", looped.loop(1), 1);
            due("ahead of FORWARD", looped.kind(), 2);
            WhipCrack later = whip("piece 12 strands 1 stuff 2;", "hold 1;go 0 -102 for 1;go 0 102 for 1;", 50, 0, 1, 2000);
            due("in a TICK between", later.kind(), 2);
            later.law(PACE, 2000);
            due("no CRACK", later.crack(NONE, 0), 0);
        });
        sentence("1 FORWARD: there is a LOOP in some TICK; else 0 FLAT", () -> {
            String two = "piece 2 strands 1 stuff 2;";
            due("THE HAND at 50", whip(two, "go 50 0 for 1;", 0, 0).kind(), 0);
            due("THE HAND at 51", whip(two, "go 51 0 for 1;", 0, 0).kind(), 1);
            due("in a TICK between", whip(two, "hold 1;go 51 0 for 1;go -51 0 for 1;", 0, 0).kind(), 1);
            WhipCrack w = whip(two, "hold 1;go 51 0 for 1;go -51 0 for 1;", 0, 0);
            dues("LOOPS", new long[] {w.loop(0), w.loop(1), w.loop(2), w.loop(3)}, NONE, NONE, 1, NONE);
            due("a new object", new WhipCrack().kind(), 0);
        });
    }

    private WhipCrack over(int down) {
        return whip("piece 12 strands 1 stuff 2;", "go 0 -" + down + " for 1;", 50, 0, 1, 2000);
    }

    // ------------------------------------------------------------ promises 14 to 18

    private void calls() {
        sentence("i = NONE: how many there are. OUTSIDE (what), UNKNOWN (in this order).", () -> {
            WhipCrack w = bent();
            for (int what = 0; what <= 6; what++) {
                due("crack(NONE, " + what + ")", w.crack(NONE, what), 2);
            }
            due("crack(0, 0)", w.crack(0, 0), 1);
            due("crack(1, 6)", w.crack(1, 6), 10);
            due("crack(2, 0)", w.crack(2, 0), UNKNOWN);
            due("none at all", light("hold 1;").crack(NONE, 0), 0);
            due("no CRACK 0", light("hold 1;").crack(0, 0), UNKNOWN);
            int many = used().crack(NONE, 0);
            due("there are some", many > 0 ? 1 : 0, 1);
            refused("crack(many, 0)", x -> x.crack(many, 0), UNKNOWN);
            refused("crack(many, 6)", x -> x.crack(many, 6), UNKNOWN);
            refused("crack(-2, 0)", x -> x.crack(-2, 0), UNKNOWN);
            refused("crack(least, 0)", x -> x.crack(LEAST, 0), UNKNOWN);
            refused("crack(most, 0)", x -> x.crack(MOST, 0), UNKNOWN);
            refused("crack(0, -1)", x -> x.crack(0, -1), OUTSIDE);
            refused("crack(0, 7)", x -> x.crack(0, 7), OUTSIDE);
            refused("crack(0, least)", x -> x.crack(0, LEAST), OUTSIDE);
            refused("crack(many, 7): OUTSIDE ahead of UNKNOWN", x -> x.crack(many, 7), OUTSIDE);
            refused("crack(NONE, 7)", x -> x.crack(NONE, 7), OUTSIDE);
            refused("crack(NONE, -1)", x -> x.crack(NONE, -1), OUTSIDE);
        });
        sentence("KIND of the THROW.", () -> {
            WhipCrack w = light("go -150 0 for 1;");
            due("with GIVEN 100", w.kind(), 3);
            w.give(90);
            due("with GIVEN 90", w.kind(), 0);
        });
        sentence("TURNS about THE POST: told as 100 and it.", () -> {
            due("none", round(1, true).turns() - round(1, false).turns(), 2);
            due("four", round(4, true).turns(), 104);
            due("four less", round(4, false).turns(), 96);
        });
        sentence("THE EAR is at a place (what = 0), THE POST (1): 1. OUTSIDE.", () -> {
            for (int what = 0; what < 2; what++) {
                int of = what;
                for (int v : new int[] {-5000, 5000}) {
                    WhipCrack w = new WhipCrack();
                    due("put(" + what + ", " + v + ", " + v + ")", w.put(what, v, v), 1);
                }
                for (int v : new int[] {-5001, 5001, LEAST, MOST}) {
                    refused("put(" + what + ", " + v + ", 0)", x -> x.put(of, v, 0), OUTSIDE);
                    refused("put(" + what + ", 0, " + v + ")", x -> x.put(of, 0, v), OUTSIDE);
                }
            }
            for (int what : new int[] {-1, 2, LEAST, MOST}) {
                refused("put(" + what + ", 0, 0)", x -> x.put(what, 0, 0), OUTSIDE);
            }
        });
        sentence("How near a CRACK comes to THE EAR: the least FAR; NONE: it does not crack.", () -> {
            due("SPEED 149", light("go -149 0 for 1;").near(), NONE);
            WhipCrack w = paced("go -60 0 for 1;hold 1;go -60 0 for 1;", 60);
            w.put(0, -9, 0);
            dues("two CRACKS", new long[] {w.crack(0, 5), w.crack(1, 5)}, 1, 61);
            due("the first is nearer", w.near(), 1);
            w.put(0, -70, 0);
            due("the second is at it", w.near(), 0);
            w.put(0, -40, 0);
            due("both as near", w.near(), 30);
        });
    }
}
