/** What the document says ahead of its sections: how long an object is used, how is divided, roots, refusals. */
final class BoundsOfTerms extends Bounds {
    BoundsOfTerms(Sentences doc) {
        super(doc);
    }

    void run() {
        calls();
        numbers();
        refusals();
        asking();
    }

    private void calls() {
        sentence("An object is used for at most 512 calls after it has been made; what later calls answer is free.", () -> {
            WhipCrack w = new WhipCrack();
            int done = feed(w, "length 200;" + SILK);
            done += w.plait() > 0 ? 1 : 0;
            done += feed(w, "times 6(times 2(times 5(go -999 0 for 1;)))");
            done += w.way() == 60 ? 1 : 0;
            w.law(AIR, 50);
            w.law(FALL, 0);
            w.give(200);
            done += 3;
            // 60 times 1998 is 119880, times 9 / 100 is 10789, forty times in each of these calls.
            int evenings = 511 - done;
            for (int i = 0; i < evenings; i++) {
                due("call " + (done + i + 1), w.evening(40), 40);
            }
            due("call 512", w.piece(0, 4), evenings * 40L * 10789);
            // Its answers are free, but it may not fail: WEAR would be more than an int can hold.
            for (int i = 0; i < 5000; i++) {
                w.evening(40);
            }
            due("a call far behind ends", w.count(0), 1);
        });
    }

    /** How many calls it took. */
    private static int feed(WhipCrack w, String text) {
        Check.feed(w, text);
        return (text.length() + 7) / 8;
    }

    private void numbers() {
        sentence("/ cuts towards 0 (also of numbers below 0)", () -> {
            WhipCrack w = light("go 7 -7 for 2;");
            dues("X times i / T", xs(w, 0), 0, 3, 7);
            dues("Y times i / T", ys(w, 0), 0, -3, -7);
            w.give(50);
            dues("times GIVEN / 100", xs(w, 0), 0, 1, 3);
            dues("times GIVEN / 100, below 0", ys(w, 0), 0, -1, -3);
            // -15 times 925 / 1000, and 15 times that to the other side.
            dues("going on by less than -13", xs(whip(SILK, "go -15 0 for 1;hold 1;", 5, 0), 1), 50, 35, 22);
            dues("going on by more than 13", xs(whip(SILK, "go 115 0 for 1;hold 1;", 5, 0), 1), 50, 65, 78);
            // -10 times 24 / 1000 bends nothing.
            dues("bending", row(whip("piece 2 strands 1;", "go 10 0 for 1;", 0, 0), 1), 10, 50, 100);
            WhipCrack up = whip(SILK, "go 0 40 for 1;", 0, 0, 1);
            dues("pulling up", new long[] {up.joint(1, 1, 0), up.joint(1, 1, 1)}, 39, 9);
            WhipCrack down = whip(SILK, "go 0 -40 for 1;", 0, 0, 1);
            dues("pulling down: the same to the other side", new long[] {down.joint(1, 1, 0), down.joint(1, 1, 1)}, 39, -9);
        });
        sentence("ROOT of a number is the greatest whole one whose square is not above it", () -> {
            WhipCrack w = light("hold 1;");
            int[][] roots = {{0, 0, 0}, {-1, 0, 1}, {-1, 1, 1}, {-2, 2, 2}, {-3, 0, 3}, {-3, 1, 3}, {-8, 4, 8}, {-9, 0, 9},
                {-12, 12, 16}, {-8, 15, 17}, {-4802, 98, 4802}, {-4803, 0, 4803}, {-5000, 99, 5000}, {-5000, 100, 5000},
                {-5000, 101, 5001}, {-5000, -5000, 7071}};
            for (int[] r : roots) {
                due("ROOT of " + (r[0] * r[0] + r[1] * r[1]), w.alone(r[0], r[1]), r[2]);
            }
            // SPEED: a JOINT of WEIGHT 1 falls by so much in one TICK, and THE HAND with it.
            for (int fall = 0; fall <= 50; fall++) {
                due("ROOT of " + fall * fall, whip(SILK, "go 0 -" + fall + " for 1;", 0, fall).speed(1, 1), fall);
            }
        });
        sentence("What has a number has it from 0 on, as it comes.", () -> {
            WhipCrack w = whip("piece 1 strands 9;piece 1 strands 8;", "go -200 0 for 1;", 0, 0);
            dues("PIECES", new long[] {w.piece(-1, 0), w.piece(0, 0), w.piece(1, 0), w.piece(2, 0)}, UNKNOWN, 9, 8, UNKNOWN);
            dues("JOINTS", new long[] {w.joint(-1, 0, 0), w.joint(0, 0, 0), w.joint(2, 0, 0), w.joint(3, 0, 0)}, UNKNOWN, 0, 100, UNKNOWN);
            dues("CRACKS", new long[] {w.crack(-2, 1), w.crack(0, 1), w.crack(1, 1), w.crack(2, 1)}, UNKNOWN, 1, 2, UNKNOWN);
            dues("IMAGES", new long[] {w.keep(-1), w.keep(0), w.keep(1), w.keep(2)}, UNKNOWN, 1, 1, UNKNOWN);
        });
        sentence("A SET is a whole number, bit k for k.", () -> {
            for (int hide = 0; hide < 6; hide++) {
                WhipCrack w = new WhipCrack();
                for (int i = 0; i < 6; i++) {
                    w.lay(0, i == hide ? 50 : 40);
                }
                w.lay(1, 50);
                due("HIDE " + hide + " alone", w.cut(), 1 << hide);
                w.lay(1, 50);
                due("none has two", w.cut(), NONE);
            }
        });
        sentence("NONE is -1.", () -> {
            due("NONE", WhipCrack.NONE, -1);
            due("UNKNOWN", WhipCrack.UNKNOWN, -1001);
            due("OUTSIDE", WhipCrack.OUTSIDE, -1002);
            due("NOT", WhipCrack.NOT, -1003);
            due("FULL", WhipCrack.FULL, -1004);
        });
    }

    private void refusals() {
        sentence("REFUSALS, of several the first in this order: UNKNOWN (a PIECE, JOINT, CRACK, IMAGE that there is not), "
            + "OUTSIDE (another number out of its bounds), NOT (not now, as told), FULL.", () -> {
            refused("UNKNOWN and OUTSIDE: piece", x -> x.piece(99, 99), UNKNOWN);
            refused("UNKNOWN and OUTSIDE: joint", x -> x.joint(99, 99, 99), UNKNOWN);
            refused("UNKNOWN and OUTSIDE: crack, which has its own order", x -> x.crack(999, 99), OUTSIDE);
            refused("UNKNOWN and NOT: goBack", x -> x.goBack(2), UNKNOWN);
            refused("NOT: goBack", x -> x.goBack(1), NOT);
            refused(() -> usedWith("piece 9 strands 2;"), "OUTSIDE and NOT: loudest", x -> x.loudest(97, 0), OUTSIDE);
            refused(() -> usedWith("piece 9 strands 2;"), "NOT: loudest", x -> x.loudest(96, 0), NOT);
            refused(Bounds::withoutFilm, "OUTSIDE and NOT: told", x -> x.told(2), OUTSIDE);
            refused(Bounds::withoutFilm, "NOT: told", x -> x.told(0), NOT);
            refused(Bounds::withFullText, "OUTSIDE and FULL: feed", x -> x.feed(9, 0), OUTSIDE);
            refused(Bounds::withFullText, "FULL: feed", x -> x.feed(1, 0), FULL);
            refused(Bounds::withFullHides, "OUTSIDE and FULL: lay", x -> x.lay(0, 0), OUTSIDE);
            refused(Bounds::withFullHides, "FULL: lay", x -> x.lay(0, 1), FULL);
            refused(Bounds::withFullFilm, "OUTSIDE and FULL: film", x -> x.film(10000, 0), OUTSIDE);
            refused(Bounds::withFullFilm, "FULL: film", x -> x.film(9999, 0), FULL);
        });
        sentence("What is refused changes nothing.", () -> {
            // Each call that can be refused, one behind the other; each one alone has its own test with its promise.
            WhipCrack w = used();
            dues("UNKNOWN", new long[] {w.piece(5, 0), w.joint(6, 0, 0), w.speed(6, 1), w.force(6, 1), w.loop(9), w.crack(999, 0),
                w.keep(2), w.goBack(2)}, UNKNOWN, UNKNOWN, UNKNOWN, UNKNOWN, UNKNOWN, UNKNOWN, UNKNOWN, UNKNOWN);
            dues("OUTSIDE", new long[] {w.feed(9, 0), w.law(0, 51), w.give(201), w.count(10), w.put(0, 5001, 0), w.loudest(97, 0),
                w.aim(0, 0, 0, 9, 0), w.alone(5001, 0), w.bestAim(0, 0, 10000), w.close(0, 100, 31), w.rhythm(0, 100, 61, 0),
                w.evening(41), w.lay(0, 1000), w.film(10000, 0), w.told(2)}, OUTSIDE, OUTSIDE, OUTSIDE, OUTSIDE, OUTSIDE, OUTSIDE,
                OUTSIDE, OUTSIDE, OUTSIDE, OUTSIDE, OUTSIDE, OUTSIDE, OUTSIDE, OUTSIDE, OUTSIDE);
            due("NOT", w.goBack(1), NOT);
            unchanged(Bounds::used, "all of them", w);
            WhipCrack told = used();
            due("the tests would see a change", told.give(81), 80);
            dues("as they do", new long[] {java.util.Arrays.equals(seen(told), seen(used())) ? 1 : 0}, 0);
        });
    }

    private void asking() {
        sentence("---- a throw (as it would be, with GIVEN; nothing wears)", () -> {
            WhipCrack w = light("go -100 0 for 1;");
            w.give(10);
            due("with GIVEN", w.speed(1, 1), 10);
            due("nothing wears", w.piece(0, 4), 0);
            w.crackOn();
            due("really done, with GIVEN too", w.piece(0, 4), 0);
            w.give(200);
            w.crackOn();
            due("really done, with GIVEN too", w.piece(0, 4), 18);
            for (int what = 0; what <= 9; what++) {
                int of = what;
                asks("count(" + what + ")", x -> x.count(of));
            }
            asks("fault()", WhipCrack::fault);
            asks("piece(4, 5)", x -> x.piece(4, 5));
            for (int what = 0; what <= 6; what++) {
                int of = what;
                asks("crack(0, " + what + ")", x -> x.crack(0, of));
            }
        });
    }
}
