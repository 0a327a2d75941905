import java.util.ArrayList;
import java.util.Arrays;
import java.util.List;
import java.util.function.Supplier;
import java.util.function.ToLongFunction;

/** What the tests of boundary cases share: whips whose answers can be told by hand, and calls that must change nothing. */
abstract class Bounds {
    static final int NONE = WhipCrack.NONE, UNKNOWN = WhipCrack.UNKNOWN, OUTSIDE = WhipCrack.OUTSIDE;
    static final int NOT = WhipCrack.NOT, FULL = WhipCrack.FULL;
    static final int LEAST = Integer.MIN_VALUE, MOST = Integer.MAX_VALUE;
    static final int AIR = 0, FALL = 1, ROUNDS = 2, PACE = 3, LASTS = 4;
    static final String SILK = "piece 1 strands 1 stuff 2;";

    private final Sentences doc;

    Bounds(Sentences doc) {
        this.doc = doc;
    }

    void sentence(String words, Runnable test) {
        doc.test(words, test);
    }

    void due(String call, long got, long want) {
        doc.due(call, got, want);
    }

    void dues(String calls, long[] got, long... want) {
        due(calls + ": " + Arrays.toString(got) + ", due " + Arrays.toString(want), Arrays.equals(got, want) ? 1 : 0, 1);
    }

    // ------------------------------------------------------------ whips

    /** A PLAIT, a WAY, and as many LAWS as are told: AIR, FALL, ROUNDS, PACE, LASTS. */
    WhipCrack whip(String plait, String way, int... laws) {
        WhipCrack w = new WhipCrack();
        due("'" + plait + "' can be read", Check.plait(w, plait) > 0 ? 1 : 0, 1);
        due("'" + way + "' can be read", Check.way(w, way) > 0 ? 1 : 0, 1);
        for (int i = 0; i < laws.length; i++) {
            due("law(" + i + ", " + laws[i] + ") is not refused", w.law(i, laws[i]) >= 0 ? 1 : 0, 1);
        }
        return w;
    }

    /**
     * One strand of silk, 50 long, no FALL, and so much AIR that it stops dead if it moved 20 or more. A HAND
     * that goes by -g along x takes THE TIP by just -g with it.
     */
    WhipCrack light(String way) {
        return whip(SILK, way, 50, 0);
    }

    /** A law's bounds by its call: what it is at first, both edges, and what is beyond them. */
    void lawBounds(int what, int first, int least, int most) {
        WhipCrack w = new WhipCrack();
        due("the least; what it was at first", w.law(what, least), first);
        due("the most; what it was", w.law(what, most), least);
        due("what it was", w.law(what, least), most);
        for (int v : new int[] {least - 1, most + 1, LEAST, MOST}) {
            refused("law(" + what + ", " + v + ")", x -> x.law(what, v), OUTSIDE);
        }
    }

    static long[] xs(WhipCrack w, int k) {
        return places(w, k, 0);
    }

    static long[] ys(WhipCrack w, int k) {
        return places(w, k, 1);
    }

    private static long[] places(WhipCrack w, int k, int what) {
        long[] all = new long[w.count(2) + 1];
        for (int t = 0; t < all.length; t++) {
            all[t] = w.joint(k, t, what);
        }
        return all;
    }

    /** JOINTS 0 and on behind a TICK: x alone. */
    static long[] row(WhipCrack w, int tick) {
        long[] all = new long[w.count(0) + 1];
        for (int k = 0; k < all.length; k++) {
            all[k] = w.joint(k, tick, 0);
        }
        return all;
    }

    static long[] pieces(WhipCrack w, int what) {
        long[] all = new long[w.count(0)];
        for (int i = 0; i < all.length; i++) {
            all[i] = w.piece(i, what);
        }
        return all;
    }

    static String blanks(int n) {
        return " ".repeat(n);
    }

    /** A text made as long as told, by blanks ahead. */
    static String padded(String text, int length) {
        return blanks(length - text.length()) + text;
    }

    // ------------------------------------------------------------ nothing changed

    /** A whip of which everything that can be changed is unlike what it is at first. */
    static WhipCrack used() {
        WhipCrack w = new WhipCrack();
        Check.plait(w, "length 30;piece 1 strands 3 stuff 1;");
        Check.way(w, "go 50 5 for 2;");
        w.law(AIR, 7);
        w.crackOn();
        w.keep(0);
        Check.plait(w, "length 60;piece 2 strands 9 stuff 3;piece 1 strands 5;piece 2 strands 2 stuff 2;");
        Check.way(w, "go -180 90 for 3;times 2(go 150 0 for 2;)hold 1;");
        int[] laws = {4, 5, 2, 60, 20000};
        for (int i = 0; i < laws.length; i++) {
            w.law(i, laws[i]);
        }
        w.give(80);
        w.put(0, -40, 77);
        w.put(1, 33, -21);
        w.crackOn();
        for (int i = 0; i < 2; i++) {
            w.lay(0, 30 + 50 * i);
            w.lay(1, 40 - 15 * i);
            w.film(10 - 40 * i, 20 - 15 * i);
        }
        Check.plait(w, FAULTY);
        Check.feed(w, "hold 4");
        return w;
    }

    /** A text with FAULT 2 at byte 16. */
    static final String FAULTY = "piece 1 strands 99;";

    static WhipCrack usedWith(String plait) {
        WhipCrack w = used();
        w.way();
        Check.plait(w, plait);
        w.crackOn();
        return w;
    }

    static WhipCrack withFullText() {
        WhipCrack w = used();
        w.way();
        Check.feed(w, padded("hold 4;", 160));
        return w;
    }

    static WhipCrack withFullHides() {
        WhipCrack w = used();
        for (int i = w.count(6); i < 6; i++) {
            w.lay(0, 11 + i);
        }
        for (int i = w.count(7); i < 8; i++) {
            w.lay(1, 3 + i);
        }
        return w;
    }

    static WhipCrack withFullFilm() {
        WhipCrack w = used();
        for (int i = w.count(8); i < 60; i++) {
            w.film(i, -i);
        }
        return w;
    }

    static WhipCrack withoutFilm() {
        WhipCrack w = used();
        w.blank();
        return w;
    }

    /** All that can be told of an object, in some 200 calls; the object is spent then. */
    static long[] seen(WhipCrack w) {
        List<Long> all = new ArrayList<>();
        seeSetup(w, all);
        seeThrow(w, all);
        see(all, w.leastHand(), w.loudest(40, NONE), w.loudest(40, 0), w.aim(10, 10, 0, 1, 0), w.alone(-70, 7),
            w.bestAim(-50, 20, 30), w.close(200, 60, 2), w.rhythm(900, 200, 1, 5), w.cut(), w.told(0), w.told(1));
        see(all, w.feed(1, ';'), w.way(), w.fault(), w.count(4), w.evening(2));
        for (int image = 0; image < 2; image++) {
            seeSetup(w, all);
            seeLaws(w, all);
            see(all, w.goBack(image));
        }
        seeSetup(w, all);
        seeLaws(w, all);
        see(all, w.clear(), w.blank());
        long[] row = new long[all.size()];
        for (int i = 0; i < row.length; i++) {
            row[i] = all.get(i);
        }
        return row;
    }

    private static void see(List<Long> all, long... answers) {
        for (long a : answers) {
            all.add(a);
        }
    }

    private static void seeSetup(WhipCrack w, List<Long> all) {
        for (int what = 0; what <= 9; what++) {
            see(all, w.count(what));
        }
        see(all, w.fault());
        for (int i = 0; i < w.count(0); i++) {
            see(all, w.piece(i, 0), w.piece(i, 1), w.piece(i, 4));
        }
    }

    private static void seeLaws(WhipCrack w, List<Long> all) {
        see(all, w.law(AIR, 0), w.law(FALL, 0), w.law(ROUNDS, 1), w.law(PACE, 10), w.law(LASTS, 1));
    }

    private static void seeThrow(WhipCrack w, List<Long> all) {
        int tip = w.count(0);
        for (int t = 1; t <= w.count(2); t++) {
            see(all, w.joint(0, t, 0), w.joint(tip, t, 0), w.joint(tip, t, 1), w.force(NONE, t), w.loop(t));
        }
        see(all, w.crack(NONE, 0), w.crack(0, 3), w.crack(0, 4), w.kind(), w.turns(), w.near());
    }

    /** A call that is refused: its answer, and that it changed nothing. */
    void refused(String call, ToLongFunction<WhipCrack> doing, int want) {
        refused(Bounds::used, call, doing, want);
    }

    void refused(Supplier<WhipCrack> made, String call, ToLongFunction<WhipCrack> doing, int want) {
        WhipCrack w = made.get();
        due(call, doing.applyAsLong(w), want);
        unchanged(made, call, w);
    }

    /** A call that only asks. */
    void asks(String call, ToLongFunction<WhipCrack> doing) {
        WhipCrack w = used();
        doing.applyAsLong(w);
        unchanged(Bounds::used, call, w);
    }

    void unchanged(Supplier<WhipCrack> made, String call, WhipCrack w) {
        dues(call + " changed nothing", seen(w), seen(made.get()));
    }
}
