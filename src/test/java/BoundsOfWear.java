/** Section 6 of the document: wear, hides, films, images; and promises 26 to 35. */
final class BoundsOfWear extends Bounds {
    BoundsOfWear(Sentences doc) {
        super(doc);
    }

    void run() {
        wearing();
        gone();
        evenings();
        hides();
        hideCalls();
        films();
        filmCalls();
        images();
    }

    // ------------------------------------------------------------ wear

    /** PIECES of one strand each, of STUFFS as told; along x all JOINTS move with THE HAND, each TICK by as much. */
    private WhipCrack row(String stuffs, String way, int lasts) {
        StringBuilder plait = new StringBuilder();
        for (int i = 0; i < stuffs.length(); i++) {
            plait.append("piece 1 strands 1 stuff ").append(stuffs.charAt(i)).append(";");
        }
        return whip(plait.toString(), way, 50, 0, 3, 150, lasts);
    }

    private void wearing() {
        sentence("WEAR of a PIECE (0 at first, and of a new PLAIT)", () -> {
            dues("at first", pieces(new WhipCrack(), 4), 0, 0, 0, 0);
            WhipCrack w = row("22", "go -100 0 for 1;", 5000);
            w.crackOn();
            dues("worn", pieces(w, 4), 9, 9);
            Check.plait(w, "piece 1 strands 1 stuff 2;piece 1 strands 1 stuff 2;");
            dues("the same PLAIT anew", pieces(w, 4), 0, 0);
            w.crackOn();
            Check.plait(w, FAULTY);
            dues("no new PLAIT", pieces(w, 4), 9, 9);
            Check.way(w, "go -100 0 for 1;");
            dues("a new WAY", pieces(w, 4), 9, 9);
        });
        sentence("by the sum over TICKS of SPEED of JOINT i and 1, times WEARS / 100", () -> {
            // Kangaroo: 49 times 2 is not yet 100; twice 25 is, though neither is alone.
            int[][] sums = {{49, 1, 0}, {50, 1, 1}, {50, 2, 1}, {99, 1, 1}, {100, 1, 2}, {0, 30, 0}};
            for (int[] s : sums) {
                WhipCrack w = whip("piece 1 strands 1;", "go -" + s[0] + " 0 for " + s[1] + ";", 0, 0);
                due("crackOn()", w.crackOn(), 0);
                due(s[0] + " in " + s[1], w.piece(0, 4), s[2]);
                w.crackOn();
                due(s[0] + " in " + s[1] + ", twice", w.piece(0, 4), 2 * s[2]);
            }
            WhipCrack w = row("2031", "go -100 0 for 1;", 30000);
            w.crackOn();
            dues("each by its own STUFF", pieces(w, 4), 9, 2, 5, 3);
            WhipCrack hand = row("22", "go 45 0 for 1;", 5000);
            hand.crackOn();
            dues("THE HAND alone moves", pieces(hand, 4), 0, 0);
            // JOINT 1 stays, JOINT 2 is bent by 25, half of what THE HAND moves.
            WhipCrack bent = whip("piece 2 strands 16 stuff 1;", "go 50 0 for 1;", 0, 0);
            for (int i = 0; i < 4; i++) {
                bent.crackOn();
            }
            dues("25 times 3 is not yet 100", pieces(bent, 4), 0, 0);
            Check.way(bent, "go 50 0 for 1;go 60 0 for 1;");
            bent.crackOn();
            dues("10 times 3, and 25 and 55 times 3", pieces(bent, 4), 0, 2);
        });
    }

    private void gone() {
        sentence("It is GONE when its WEAR is LASTS (1 .. 30000; 5000 at first) or more", () -> {
            lawBounds(LASTS, 5000, 1, 30000);
            due("WEAR 9, LASTS 10", row("22", "go -100 0 for 1;", 10).crackOn(), 0);
            due("WEAR 9, LASTS 9", row("22", "go -100 0 for 1;", 9).crackOn(), 1);
            due("WEAR 9, LASTS 8", row("22", "go -100 0 for 1;", 8).crackOn(), 1);
            due("WEAR 0, LASTS 1", row("22", "go -11 0 for 1;", 1).crackOn(), 0);
            due("WEAR 1, LASTS 1", row("22", "go -12 0 for 1;", 1).crackOn(), 1);
            // 8334 times 9 / 100 is 750, 8323 times 9 / 100 is 749.
            WhipCrack most = row("22", "times 8(go -999 0 for 1;)go -342 0 for 1;", 30000);
            due("39 of them", most.evening(39), 39);
            dues("39 times 750", pieces(most, 4), 29250, 29250);
            most.keep(0);
            Check.way(most, "times 8(go -999 0 for 1;)go -331 0 for 1;");
            due("WEAR 29999", most.crackOn(), 0);
            dues("just so", pieces(most, 4), 29999, 29999);
            most.goBack(0);
            due("WEAR 30000", most.crackOn(), 1);
            dues("PIECE 0 stays", pieces(most, 4), 30000);
            WhipCrack lower = row("22", "go -100 0 for 1;", 5000);
            lower.crackOn();
            lower.law(LASTS, 9);
            due("not by the law alone", lower.count(0), 2);
            due("by the next THROW", lower.crackOn(), 1);
        });
        sentence("with it all behind it", () -> {
            WhipCrack w = row("0200", "go -100 0 for 1;", 9);
            due("PIECE 1, and two that did not wear so", w.crackOn(), 3);
            due("PIECES", w.count(0), 1);
            due("PIECE 1", w.piece(1, 0), UNKNOWN);
            due("JOINT 2", w.joint(2, 0, 0), UNKNOWN);
            dues("THE TIP is JOINT 1 now, and so in all that is asked", new long[] {w.joint(1, 1, 0), w.aim(-50, 0, 1, 1, 0),
                w.alone(150, 0), w.force(NONE, 1), w.loudest(96, 0), w.loudest(96, 1)}, -50, 0, 100, 40000, 12, NONE);
            WhipCrack last = row("0002", "go -100 0 for 1;", 9);
            due("the last one alone", last.crackOn(), 1);
            dues("those ahead stay", pieces(last, 4), 2, 2, 2);
            dues("THE TIP is JOINT 3 now", new long[] {last.joint(3, 1, 0), last.aim(50, 0, 1, 1, 0), last.alone(200, 0)}, 50, 0, 50);
            due("PIECES 1 and 3: from the first of them on", row("0202", "go -100 0 for 1;", 9).crackOn(), 3);
        });
        sentence("(one PIECE stays: PIECE 0 is never GONE)", () -> {
            WhipCrack one = row("2", "go -100 0 for 1;", 1);
            due("one PIECE", one.crackOn(), 0);
            due("again", one.crackOn(), 0);
            due("it stays", one.count(0), 1);
            due("it wears on", one.piece(0, 4), 18);
            WhipCrack two = row("20", "go -100 0 for 1;", 9);
            due("PIECE 0 has WEAR enough, PIECE 1 has not", two.crackOn(), 0);
            dues("both stay", pieces(two, 4), 9, 2);
            WhipCrack all = whip("piece 12 strands 1 stuff 2;", "go -100 0 for 1;", 50, 0, 3, 150, 1);
            due("eleven of twelve", all.crackOn(), 11);
            due("one stays", all.count(0), 1);
        });
        sentence("A THROW that is really done: how many PIECES are GONE by it.", () -> {
            WhipCrack w = row("222", "go -100 0 for 1;", 18);
            due("none", w.crackOn(), 0);
            due("two", w.crackOn(), 2);
            due("none any more", w.crackOn(), 0);
            due("asking wears nothing", w.speed(1, 1) + w.kind() + w.leastHand() > 0 ? w.piece(0, 4) : 0, 27);
            // Each of the calls that only throw as it would be.
            asks("joint", x -> x.joint(1, 1, 0));
            asks("speed", x -> x.speed(1, 1));
            asks("force", x -> x.force(NONE, 1));
            asks("loop", x -> x.loop(1));
            asks("crack", x -> x.crack(0, 4));
            asks("kind", WhipCrack::kind);
            asks("turns", WhipCrack::turns);
            asks("near", WhipCrack::near);
            asks("told", x -> x.told(0));
        });
    }

    private void evenings() {
        sentence("AN EVENING: THROWS really done until some PIECE is GONE, or n were", () -> {
            WhipCrack w = row("22", "go -100 0 for 1;", 27);
            due("n were", w.evening(2), 2);
            dues("twice 9", pieces(w, 4), 18, 18);
            due("the third one ends it", w.evening(2), 1);
            dues("one PIECE stays", pieces(w, 4), 27);
            due("just at the last of n", row("22", "go -100 0 for 1;", 27).evening(3), 3);
            due("nothing is GONE any more", w.evening(7), 7);
        });
        sentence("AN EVENING of n THROWS at most (1 .. 40): how many were done. OUTSIDE.", () -> {
            WhipCrack w = row("22", "go -100 0 for 1;", 361);
            due("evening(1)", w.evening(1), 1);
            due("WEAR", w.piece(1, 4), 9);
            WhipCrack forty = row("22", "go -100 0 for 1;", 361);
            due("evening(40)", forty.evening(40), 40);
            dues("forty times 9", pieces(forty, 4), 360, 360);
            due("the next one ends it", forty.evening(40), 1);
            for (int n : new int[] {0, 41, -1, LEAST, MOST}) {
                refused("evening(" + n + ")", x -> x.evening(n), OUTSIDE);
            }
        });
    }

    // ------------------------------------------------------------ hides

    private static WhipCrack laid(int[] hides, int... strands) {
        WhipCrack w = new WhipCrack();
        for (int h : hides) {
            w.lay(0, h);
        }
        for (int s : strands) {
            w.lay(1, s);
        }
        return w;
    }

    private static int[] of(int... lengths) {
        return lengths;
    }

    private void hides() {
        sentence("HIDES (6 at most) have lengths (1 .. 999)", () -> {
            WhipCrack w = new WhipCrack();
            for (int i = 1; i <= 6; i++) {
                due("lay(0, " + (i % 2 == 0 ? 999 : 1) + ")", w.lay(0, i % 2 == 0 ? 999 : 1), i);
            }
            refused(Bounds::withFullHides, "a seventh", x -> x.lay(0, 1), FULL);
            refused("lay(0, 0)", x -> x.lay(0, 0), OUTSIDE);
            refused("lay(0, 1000)", x -> x.lay(0, 1000), OUTSIDE);
            due("999 of a hide of 999", laid(of(999), 999).cut(), 1);
            due("999 of a hide of 998", laid(of(998), 999).cut(), NONE);
        });
        sentence("STRANDS to be cut (8 at most) have lengths likewise", () -> {
            WhipCrack w = new WhipCrack();
            for (int i = 1; i <= 8; i++) {
                due("lay(1, " + (i % 2 == 0 ? 999 : 1) + ")", w.lay(1, i % 2 == 0 ? 999 : 1), i);
            }
            refused(Bounds::withFullHides, "a ninth", x -> x.lay(1, 1), FULL);
            refused("lay(1, 0)", x -> x.lay(1, 0), OUTSIDE);
            refused("lay(1, 1000)", x -> x.lay(1, 1000), OUTSIDE);
            due("eight of one hide", laid(of(8), 1, 1, 1, 1, 1, 1, 1, 1).cut(), 1);
            due("eight of one hide that is too short", laid(of(7), 1, 1, 1, 1, 1, 1, 1, 1).cut(), NONE);
        });
        sentence("CUT: the SET of fewest HIDES from which all can be cut (each from one), of like ones the least; NONE.", () -> {
            due("just enough", laid(of(50), 20, 30).cut(), 1);
            due("a hair too little", laid(of(49), 20, 30).cut(), NONE);
            due("no STRAND is cut from two", laid(of(30, 30), 40).cut(), NONE);
            due("one rather than two", laid(of(30, 30, 60), 30, 30).cut(), 4);
            due("two that are needed", laid(of(30, 30, 59), 30, 30).cut(), 3);
            due("of like ones the least", laid(of(10, 60, 60, 60), 30, 30).cut(), 2);
            due("of like ones the least, of two", laid(of(50, 60, 70, 80), 70, 60).cut(), 6);
            due("not the long one first", laid(of(60, 60), 50, 50, 10, 10).cut(), 3);
            due("all six", laid(of(1, 2, 3, 4, 5, 6), 6, 5, 4, 3, 2, 1).cut(), 63);
            due("the sixth alone", laid(of(1, 2, 3, 4, 5, 6), 6).cut(), 32);
            due("neither HIDES nor STRANDS", laid(of()).cut(), 0);
            due("no STRANDS", laid(of(5, 5)).cut(), 0);
            due("no HIDES", laid(of(), 1).cut(), NONE);
        });
    }

    private void hideCalls() {
        sentence("A HIDE (what = 0), a STRAND to be cut (1) more: how many there are. OUTSIDE, FULL.", () -> {
            for (int what : new int[] {-1, 2, LEAST, MOST}) {
                refused("lay(" + what + ", 5)", x -> x.lay(what, 5), OUTSIDE);
                refused(Bounds::withFullHides, "lay(" + what + ", 5) when full", x -> x.lay(what, 5), OUTSIDE);
            }
            for (int what = 0; what < 2; what++) {
                int of = what;
                for (int length : new int[] {0, 1000, -1, LEAST, MOST}) {
                    refused("lay(" + what + ", " + length + ")", x -> x.lay(of, length), OUTSIDE);
                    refused(Bounds::withFullHides, "lay(" + what + ", " + length + ") when full", x -> x.lay(of, length), OUTSIDE);
                }
                refused(Bounds::withFullHides, "lay(" + what + ", 999) when full", x -> x.lay(of, 999), FULL);
            }
            WhipCrack w = laid(of(1, 1, 1, 1, 1, 1));
            due("HIDES are full, STRANDS are not", w.lay(1, 1), 1);
            WhipCrack s = laid(of(), 1, 1, 1, 1, 1, 1, 1, 1);
            due("STRANDS are full, HIDES are not", s.lay(0, 1), 1);
        });
        sentence("Neither HIDES nor STRANDS to be cut any more: how many there were of both.", () -> {
            WhipCrack w = withFullHides();
            due("6 and 8", w.clear(), 14);
            due("HIDES", w.count(6), 0);
            due("STRANDS", w.count(7), 0);
            due("none any more", w.clear(), 0);
            due("cut()", w.cut(), 0);
            due("room again", w.lay(0, 5), 1);
            due("room again", w.lay(1, 5), 1);
            due("of the new ones alone", w.cut(), 1);
            due("one of each", w.clear(), 2);
        });
        sentence("CUT; NONE.", () -> {
            asks("cut()", WhipCrack::cut);
            due("with a STRAND too long for all", laid(of(5, 6, 7), 8).cut(), NONE);
            due("with one just as long as the longest", laid(of(5, 6, 7), 7).cut(), 4);
        });
    }

    // ------------------------------------------------------------ films

    private static WhipCrack filmed(WhipCrack w, int... places) {
        for (int i = 0; i + 1 < places.length; i += 2) {
            w.film(places[i], places[i + 1]);
        }
        return w;
    }

    private static long[] told(WhipCrack w) {
        return new long[] {w.told(0), w.told(1)};
    }

    /** THE TIP is at 50 in TICK 0, and at 50 less GIVEN from TICK 1 on. */
    private WhipCrack jerked() {
        return light("go -100 0 for 1;hold 2;");
    }

    private void films() {
        sentence("A FILM has for TICKS from 1 on places of THE TIP (60 at most)", () -> {
            dues("the first place is of TICK 1, not of TICK 0", told(filmed(jerked(), -50, 0)), 100, 0);
            WhipCrack w = light("hold 30;hold 30;");
            for (int i = 1; i <= 59; i++) {
                due("place " + i, w.film(50, 0), i);
            }
            dues("59 of them", told(w), 10, 0);
            due("place 60", w.film(57, -3), 60);
            dues("the sixtieth counts", told(w), 10, 10);
            refused(Bounds::withFullFilm, "a 61st", x -> x.film(50, 0), FULL);
        });
        sentence("TOLD by it: GIVEN (10, 20, .. 200) with which the sum of distances in x and in y over its TICKS (those that THE WAY has) "
            + "is least (the least such)", () -> {
            dues("at 10", told(filmed(jerked(), 40, 0)), 10, 0);
            dues("beyond 10", told(filmed(jerked(), 50, 0)), 10, 10);
            dues("at 200", told(filmed(jerked(), -150, 0)), 200, 0);
            dues("beyond 200", told(filmed(jerked(), -9999, 0)), 200, 9849);
            dues("like ones", told(filmed(jerked(), -55, 0)), 100, 5);
            dues("a hair nearer to 110", told(filmed(jerked(), -56, 0)), 110, 4);
            dues("x and y, on both sides", told(filmed(jerked(), -53, 4, -47, -4)), 100, 14);
            dues("as many as THE WAY has", told(filmed(jerked(), -50, 0, -50, 0, -50, 1)), 100, 1);
            dues("one more than THE WAY has", told(filmed(jerked(), -50, 0, -50, 0, -50, 1, 9999, 9999)), 100, 1);
            dues("fewer than THE WAY has", told(filmed(jerked(), -50, 1)), 100, 1);
            dues("y below 0", told(filmed(whip(SILK, "hold 1;", 50, 5), 50, -5)), 10, 0);
            dues("y on the other side", told(filmed(whip(SILK, "hold 1;", 50, 5), 50, 5)), 10, 10);
        });
    }

    private void filmCalls() {
        sentence("The next place of THE FILM (-9999 .. 9999): how many it has. OUTSIDE, FULL.", () -> {
            WhipCrack w = light("hold 1;");
            due("film(-9999, 9999)", w.film(-9999, 9999), 1);
            dues("there", told(w), 10, 10049 + 9999);
            due("film(9999, -9999)", w.film(9999, -9999), 2);
            for (int v : new int[] {-10000, 10000, LEAST, MOST}) {
                refused("film(" + v + ", 0)", x -> x.film(v, 0), OUTSIDE);
                refused("film(0, " + v + ")", x -> x.film(0, v), OUTSIDE);
                refused(Bounds::withFullFilm, "film(" + v + ", 0) when full", x -> x.film(v, 0), OUTSIDE);
            }
            refused(Bounds::withFullFilm, "film(0, 0) when full", x -> x.film(0, 0), FULL);
            // The furthest that THE TIP can be from a place, in all TICKS.
            WhipCrack far = light("times 6(times 2(times 5(go -999 999 for 1;)))");
            far.give(200);
            for (int i = 0; i < 60; i++) {
                far.film(9999, -9999);
            }
            due("GIVEN", far.told(0), 10);
            due("the sum", far.told(1) > 0 ? 1 : 0, 1);
        });
        sentence("THE FILM is empty: how many places it had.", () -> {
            WhipCrack w = withFullFilm();
            due("60", w.blank(), 60);
            due("count", w.count(8), 0);
            due("none", w.blank(), 0);
            due("nothing is told", w.told(0), NOT);
            due("from the first place on", w.film(1, 1), 1);
            due("one", w.blank(), 1);
        });
        sentence("TOLD by THE FILM: what = 0 GIVEN, 1 the least sum. OUTSIDE, NOT: it is empty.", () -> {
            WhipCrack w = jerked();
            due("told(0) of none", w.told(0), NOT);
            w.film(-50, 0);
            dues("of one", told(w), 100, 0);
            for (int what : new int[] {-1, 2, LEAST, MOST}) {
                refused("told(" + what + ")", x -> x.told(what), OUTSIDE);
                refused(Bounds::withoutFilm, "told(" + what + ") of none", x -> x.told(what), OUTSIDE);
            }
            refused(Bounds::withoutFilm, "told(0) of none", x -> x.told(0), NOT);
            refused(Bounds::withoutFilm, "told(1) of none", x -> x.told(1), NOT);
            asks("told(1)", x -> x.told(1));
        });
    }

    // ------------------------------------------------------------ images

    private static long[] laws(WhipCrack w) {
        return new long[] {w.law(AIR, 0), w.law(FALL, 0), w.law(ROUNDS, 1), w.law(PACE, 10), w.law(LASTS, 1)};
    }

    private void images() {
        sentence("IMAGES 0, 1 keep PLAIT, WAY, LAWS, WEAR.", () -> {
            for (int i = 0; i < 2; i++) {
                WhipCrack w = used();
                w.keep(i);
                w.plait();
                Check.plait(w, "length 99;piece 12 strands 1;");
                Check.way(w, "hold 30;hold 30;");
                laws(w);
                due("goBack(" + i + ")", w.goBack(i), 1);
                Check.plait(w, FAULTY);
                Check.feed(w, "hold 4");
                // All is as it was, but for what that IMAGE was before, if it was the one that was kept.
                WhipCrack same = used();
                same.keep(i);
                dues("IMAGE " + i, seen(w), seen(same));
            }
            WhipCrack w = used();
            w.keep(1);
            w.give(20);
            w.put(0, -50, 3);
            w.put(1, 0, -10);
            w.film(1, 1);
            w.lay(0, 9);
            w.feed(1, '0');
            w.goBack(1);
            dues("GIVEN, THE TEXT, HIDES and THE FILM are not kept", new long[] {w.count(9), w.count(4), w.count(6), w.count(8)}, 20, 7, 3, 3);
        });
        sentence("IMAGE i becomes what is so: 1. UNKNOWN.", () -> {
            WhipCrack w = row("22", "go -100 0 for 1;", 5000);
            due("keep(0)", w.keep(0), 1);
            w.crackOn();
            due("keep(1)", w.keep(1), 1);
            w.crackOn();
            w.goBack(0);
            due("IMAGE 0", w.piece(0, 4), 0);
            w.goBack(1);
            due("IMAGE 1", w.piece(0, 4), 9);
            w.crackOn();
            due("keep(0) again", w.keep(0), 1);
            w.crackOn();
            w.goBack(0);
            due("IMAGE 0 as kept last", w.piece(0, 4), 18);
            for (int i : new int[] {-1, 2, LEAST, MOST}) {
                refused("keep(" + i + ")", x -> x.keep(i), UNKNOWN);
            }
        });
        sentence("What is so becomes IMAGE i: 1. UNKNOWN, NOT: it was not kept.", () -> {
            WhipCrack w = new WhipCrack();
            due("goBack(0) of a new object", w.goBack(0), NOT);
            due("goBack(1) of a new object", w.goBack(1), NOT);
            w.keep(1);
            due("goBack(0), 1 was kept", w.goBack(0), NOT);
            due("goBack(1)", w.goBack(1), 1);
            due("goBack(1) again", w.goBack(1), 1);
            refused("goBack(1), not kept", x -> x.goBack(1), NOT);
            for (int i : new int[] {-1, 2, LEAST, MOST}) {
                refused("goBack(" + i + ")", x -> x.goBack(i), UNKNOWN);
            }
            // The largest: 12 PIECES, 60 TICKS.
            WhipCrack most = whip("length 200;piece 12 strands 16 stuff 1;", "times 6(times 2(times 5(go 1 -1 for 1;)))");
            most.keep(0);
            Check.plait(most, "piece 12 strands 1;");
            Check.way(most, "times 6(times 2(times 5(go 2 -2 for 1;)))");
            due("another last TICK", most.joint(0, 60, 0), 120);
            most.goBack(0);
            dues("all of it", new long[] {most.count(0), most.count(1), most.count(2), most.count(3), most.count(5)}, 12, 200, 60, 60, 192);
            dues("its last TICK", new long[] {most.joint(0, 60, 0), most.joint(0, 60, 1)}, 60, -60);
            due("its last PIECE", most.piece(11, 1), 1);
        });
    }
}
