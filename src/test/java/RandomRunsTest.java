import java.util.Random;

/** Random runs of calls, each answer compared with the Model's; the seeds are fixed, so a run can be done again. */
public final class RandomRunsTest {
    private static final int RUNS = 260, TEXT_RUNS = 60;
    private static final Check check = new Check("RandomRunsTest");

    private static WhipCrack whip;
    private static Model model;
    private static Random random;
    private static int run;

    public static void main(String[] args) {
        for (run = 0; run < RUNS; run++) {
            begin(run);
            int calls = 40 + random.nextInt(100);
            for (int i = 0; i < calls; i++) {
                call(random.nextInt(48));
            }
        }
        for (run = RUNS; run < RUNS + TEXT_RUNS; run++) {
            begin(run);
            for (int i = 0; i < 100; i++) {
                tellText(random.nextBoolean(), random.nextInt(4) != 0);
                shallow();
            }
        }
        for (run = RUNS + TEXT_RUNS; run < RUNS + 2 * TEXT_RUNS; run++) {
            begin(run);
            for (int i = 0; i < 20; i++) {
                hidesAndFilm();
            }
        }
        check.end();
    }

    private static void begin(int seed) {
        random = new Random(seed * 7919L + 17);
        whip = new WhipCrack();
        model = new Model();
    }

    private static void due(String call, long got, long want) {
        check.due("run " + run + ": " + call, got, want);
    }

    /** Mostly within a range, sometimes at its ends or just out of it, seldom anything at all. */
    private static int number(int least, int most) {
        int dice = random.nextInt(40);
        switch (dice) {
            case 0: return least - 1;
            case 1: return most + 1;
            case 2: return least;
            case 3: return most;
            case 4: return random.nextInt(8) == 0 ? random.nextInt() : least;
            case 5: return random.nextInt(8) == 0 ? Integer.MIN_VALUE : most;
            default: return least + random.nextInt(most - least + 1);
        }
    }

    private static int place() {
        return random.nextInt(12) == 0 ? number(-5000, 5000) : random.nextInt(1200) - 600;
    }

    // ------------------------------------------------------------ texts

    private static String blanks(boolean need) {
        int n = random.nextInt(5) == 0 ? 1 + random.nextInt(2) : 0;
        if (need && n == 0) {
            n = 1;
        }
        return "  ".substring(0, n);
    }

    private static String digits(int least, int most) {
        String s = "" + number(least, most);
        if (random.nextInt(12) == 0 && s.length() < 3 && !s.startsWith("-")) {
            s = "0" + s;
        }
        return s;
    }

    private static String plaitText(boolean wild) {
        StringBuilder s = new StringBuilder(blanks(false));
        boolean lengthTold = false;
        int left = 12, strands = 16;
        int clauses = 1 + random.nextInt(5);
        for (int i = 0; i < clauses; i++) {
            if (random.nextInt(4) == 0 && (!lengthTold || wild && random.nextInt(4) == 0)) {
                s.append("length").append(blanks(false)).append(wild ? digits(20, 200) : "" + (20 + random.nextInt(181)));
                lengthTold = true;
            } else {
                int c = 1 + random.nextInt(Math.max(1, Math.min(left, 4)));
                int k = Math.max(1, strands - random.nextInt(5));
                s.append("piece").append(blanks(false)).append(wild ? digits(1, Math.max(1, left)) : "" + c);
                s.append(blanks(false)).append("strands").append(blanks(false));
                s.append(wild ? digits(1, strands) : "" + k);
                if (random.nextBoolean()) {
                    s.append(blanks(false)).append("stuff").append(blanks(false));
                    s.append(wild ? digits(0, 3) : "" + random.nextInt(4));
                }
                left -= c;
                strands = k;
                if (left <= 0) {
                    clauses = i;
                }
            }
            s.append(blanks(false)).append(';').append(blanks(false));
        }
        return s.toString();
    }

    private static String move() {
        int v = random.nextInt(6) == 0 ? random.nextInt(1999) - 999 : random.nextInt(401) - 200;
        return "" + v;
    }

    private static String wayText(boolean wild, int depth) {
        StringBuilder s = new StringBuilder(blanks(false));
        int clauses = 1 + random.nextInt(depth == 0 ? 4 : 2);
        for (int i = 0; i < clauses; i++) {
            int dice = random.nextInt(10);
            if (dice < 6) {
                s.append("go").append(blanks(false)).append(wild ? digits(-999, 999) : move());
                s.append(blanks(true)).append(wild ? digits(-999, 999) : move());
                s.append(blanks(false)).append("for").append(blanks(false));
                s.append(wild ? digits(1, 30) : "" + (1 + random.nextInt(6))).append(blanks(false)).append(';');
            } else if (dice < 8) {
                s.append("hold").append(blanks(false));
                s.append(wild ? digits(1, 30) : "" + (1 + random.nextInt(5))).append(blanks(false)).append(';');
            } else if (depth < (wild ? 4 : 2)) {
                s.append("times").append(blanks(false)).append(wild ? digits(2, 9) : "" + (2 + random.nextInt(3)));
                s.append(blanks(false)).append('(').append(wayText(wild, depth + 1)).append(')');
            } else {
                s.append("hold 1;");
            }
            s.append(blanks(false));
        }
        return s.toString();
    }

    private static String hurt(String text) {
        String signs = " ;()-0159azgholdtimesfr\t@A\u00e9";
        StringBuilder s = new StringBuilder(text);
        int hurts = 1 + random.nextInt(2);
        for (int i = 0; i < hurts; i++) {
            int at = random.nextInt(s.length() + 1);
            char c = signs.charAt(random.nextInt(signs.length()));
            int dice = random.nextInt(4);
            if (dice == 0 || at == s.length()) {
                s.insert(at, c);
            } else if (dice == 1) {
                s.setCharAt(at, c);
            } else if (dice == 2) {
                s.deleteCharAt(at);
            } else {
                s.setLength(at);
            }
        }
        return s.toString();
    }

    private static void feedBoth(String text) {
        for (int from = 0; from < text.length(); ) {
            int n = Math.min(1 + random.nextInt(8), text.length() - from);
            long bytes = Check.packed(text, from, n);
            if (n < 8) {
                bytes |= random.nextLong() << 8 * n;
            }
            due("feed(" + n + ", " + bytes + ")", whip.feed(n, bytes), model.feed(n, bytes));
            from += n;
        }
    }

    private static void tellText(boolean isPlait, boolean isHurt) {
        boolean wild = isHurt && random.nextBoolean();
        String text = isPlait ? plaitText(wild) : wayText(wild, 0);
        if (isHurt && random.nextInt(3) != 0) {
            text = hurt(text);
        }
        feedBoth(text);
        String told = "'" + model.text + "' ";
        if (random.nextInt(30) == 0) {
            isPlait = !isPlait;
        }
        if (isPlait) {
            due(told + "plait()", whip.plait(), model.plait());
        } else {
            due(told + "way()", whip.way(), model.way());
        }
        due(told + "fault()", whip.fault(), model.fault());
    }

    // ------------------------------------------------------------ calls

    private static void shallow() {
        for (int what = 0; what <= 9; what++) {
            due("count(" + what + ")", whip.count(what), model.count(what));
        }
        for (int i = -1; i <= 12; i++) {
            int what = number(0, 5);
            due("piece(" + i + ", " + what + ")", whip.piece(i, what), model.piece(i, what));
        }
    }

    private static void hidesAndFilm() {
        int hides = random.nextInt(7), cuts = random.nextInt(9);
        due("clear()", whip.clear(), model.clear());
        int most = 20 + random.nextInt(200);
        for (int i = 0; i < hides; i++) {
            int v = 1 + random.nextInt(most);
            due("lay(0, " + v + ")", whip.lay(0, v), model.lay(0, v));
        }
        for (int i = 0; i < cuts; i++) {
            int v = 1 + random.nextInt(Math.max(1, most / 2));
            due("lay(1, " + v + ")", whip.lay(1, v), model.lay(1, v));
        }
        due("cut()", whip.cut(), model.cut());
        for (int i = 0; i < 4; i++) {
            int x = random.nextInt(600) - 100, y = random.nextInt(400) - 200;
            due("film", whip.film(x, y), model.film(x, y));
        }
        tellText(random.nextBoolean(), false);
        due("told(0)", whip.told(0), model.told(0));
        due("told(1)", whip.told(1), model.told(1));
    }

    private static void call(int which) {
        int pieces = model.pieces.size(), ticks = model.ticks();
        int a, b, c, d, e;
        switch (which) {
            case 0: case 1: tellText(true, random.nextInt(4) == 0); break;
            case 2: case 3: case 4: tellText(false, random.nextInt(4) == 0); break;
            case 5: a = number(0, 4);
                b = a == 3 ? number(10, 200) : a == 4 ? number(1, random.nextBoolean() ? 300 : 30000)
                    : a == 2 ? number(1, 8) : number(0, 50);
                due("law(" + a + ", " + b + ")", whip.law(a, b), model.law(a, b)); break;
            case 6: a = number(10, 200); due("give(" + a + ")", whip.give(a), model.give(a)); break;
            case 7: a = number(0, 9); due("count(" + a + ")", whip.count(a), model.count(a)); break;
            case 8: a = number(0, pieces - 1); b = number(0, 5);
                due("piece(" + a + ", " + b + ")", whip.piece(a, b), model.piece(a, b)); break;
            case 9: case 10: case 11: case 12: a = number(0, pieces); b = number(0, ticks); c = number(0, 1);
                due("joint(" + a + ", " + b + ", " + c + ")", whip.joint(a, b, c), model.joint(a, b, c)); break;
            case 13: case 14: a = number(0, pieces); b = number(1, ticks);
                due("speed(" + a + ", " + b + ")", whip.speed(a, b), model.speed(a, b)); break;
            case 15: case 16: a = random.nextInt(4) == 0 ? -1 : number(0, pieces); b = number(1, ticks);
                due("force(" + a + ", " + b + ")", whip.force(a, b), model.force(a, b)); break;
            case 17: case 18: a = number(0, ticks); due("loop(" + a + ")", whip.loop(a), model.loop(a)); break;
            case 19: case 20: case 21: a = number(-1, Math.max(1, model.crack(-1, 0))); b = number(0, 6);
                due("crack(" + a + ", " + b + ")", whip.crack(a, b), model.crack(a, b)); break;
            case 22: case 23: due("kind()", whip.kind(), model.kind()); break;
            case 24: case 25: due("turns()", whip.turns(), model.turns()); break;
            case 26: case 27: a = number(0, 1); b = place(); c = place();
                due("put(" + a + ", " + b + ", " + c + ")", whip.put(a, b, c), model.put(a, b, c)); break;
            case 28: due("near()", whip.near(), model.near()); break;
            case 29: due("leastHand()", whip.leastHand(), model.leastHand()); break;
            case 30: if (pieces > 4 && pieces <= 8 && ticks > 8) {
                    break;
                }
                a = number(1, random.nextBoolean() ? 96 : 30); b = number(-1, pieces);
                due("loudest(" + a + ", " + b + ")", whip.loudest(a, b), model.loudest(a, b));
                due("loudest(" + a + ", 0)", whip.loudest(a, 0), model.loudest(a, 0)); break;
            case 31: case 32: a = place(); b = place(); c = number(0, ticks); d = number(Math.max(0, Math.min(c, ticks)), ticks); e = number(0, 1);
                due("aim(" + a + ", " + b + ", " + c + ", " + d + ", " + e + ")",
                    whip.aim(a, b, c, d, e), model.aim(a, b, c, d, e)); break;
            case 33: a = place(); b = place(); due("alone(" + a + ", " + b + ")", whip.alone(a, b), model.alone(a, b)); break;
            case 34: a = place(); b = place(); c = number(0, random.nextBoolean() ? 100 : 9999);
                due("bestAim(" + a + ", " + b + ", " + c + ")", whip.bestAim(a, b, c), model.bestAim(a, b, c)); break;
            case 35: a = place(); b = number(10, 200); c = number(0, 30);
                due("close(" + a + ", " + b + ", " + c + ")", whip.close(a, b, c), model.close(a, b, c)); break;
            case 36: case 37: a = place(); b = number(10, 200); c = random.nextInt(8) == 0 ? number(-60, 60) : random.nextInt(9) - 2;
                d = random.nextBoolean() ? 0 : number(0, random.nextBoolean() ? 100 : 9999);
                due("rhythm(" + a + ", " + b + ", " + c + ", " + d + ")", whip.rhythm(a, b, c, d), model.rhythm(a, b, c, d)); break;
            case 38: due("crackOn()", whip.crackOn(), model.crackOn()); shallow(); break;
            case 39: a = number(1, 40); due("evening(" + a + ")", whip.evening(a), model.evening(a)); shallow(); break;
            case 40: a = number(0, 1); b = number(1, 999); due("lay(" + a + ", " + b + ")", whip.lay(a, b), model.lay(a, b)); break;
            case 41: due("clear()", whip.clear(), model.clear()); break;
            case 42: due("cut()", whip.cut(), model.cut()); break;
            case 43: a = number(-9999, 9999); b = number(-9999, 9999);
                due("film(" + a + ", " + b + ")", whip.film(a, b), model.film(a, b)); break;
            case 44: if (random.nextInt(4) == 0) {
                    due("blank()", whip.blank(), model.blank());
                }
                break;
            case 45: a = number(0, 1); due("told(" + a + ")", whip.told(a), model.told(a)); break;
            case 46: a = number(0, 1); due("keep(" + a + ")", whip.keep(a), model.keep(a)); break;
            default: a = number(0, 1); due("goBack(" + a + ")", whip.goBack(a), model.goBack(a)); shallow(); break;
        }
    }
}
