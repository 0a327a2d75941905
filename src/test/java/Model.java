import java.math.BigInteger;
import java.util.ArrayList;
import java.util.Arrays;
import java.util.List;

/**
 * The document once more, as literally and slowly as it goes (big numbers, everything made anew for
 * each call, every row and every cutting tried): what WhipCrack is compared with in random runs.
 */
final class Model {
    static final int NONE = -1, UNKNOWN = -1001, OUTSIDE = -1002, NOT = -1003, FULL = -1004;
    static final int[][] STUFF = {{4, 24, 2}, {5, 36, 3}, {1, 2, 9}, {2, 8, 5}};

    /** A fault of a text: thrown by the reader at the first byte that has one. */
    static final class Fault extends RuntimeException {
        private static final long serialVersionUID = 1L;
        final int number;
        final int at;

        Fault(int number, int at) {
            this.number = number;
            this.at = at;
        }
    }

    static final class Piece {
        final int strands, stuff;
        int wear = 0;

        Piece(int strands, int stuff) {
            this.strands = strands;
            this.stuff = stuff;
        }

        int weight() {
            return strands * STUFF[stuff][0];
        }

        int bends() {
            int b = strands * STUFF[stuff][1];
            return b > 500 ? 500 : b;
        }
    }

    static final class Image {
        int length;
        List<Piece> pieces;
        List<int[]> steps;
        int[] laws;
    }

    String text = "";
    int faultAt = NONE;
    int length = 50;
    List<Piece> pieces = new ArrayList<>();
    List<int[]> steps = new ArrayList<>();
    int[] laws = {2, 3, 3, 150, 5000};
    int given = 100;
    int[] ear = {0, 500}, post = {300, 0};
    List<Integer> hides = new ArrayList<>(), cuts = new ArrayList<>();
    List<int[]> places = new ArrayList<>();
    Image[] images = new Image[2];

    Model() {
        for (int s : new int[] {8, 6, 4, 2}) {
            pieces.add(new Piece(s, 0));
        }
        steps.add(new int[] {0, 0, 1});
    }

    // ---------------------------------------------------------------- texts

    /** A token: its kind ('w' word, 'n' number, else the sign itself, '$' the end), where, and what. */
    static final class Token {
        char kind;
        int at;
        String what;
    }

    static final class Reader {
        final String text;
        final List<Token> tokens = new ArrayList<>();
        int next = 0;

        Reader(String text) {
            this.text = text;
            int i = 0;
            while (i < text.length()) {
                char c = text.charAt(i);
                if (c == ' ') {
                    i++;
                    continue;
                }
                int from = i;
                char kind = c;
                if (c >= 'a' && c <= 'z') {
                    while (i < text.length() && text.charAt(i) >= 'a' && text.charAt(i) <= 'z') {
                        i++;
                    }
                    kind = 'w';
                } else if (c >= '0' && c <= '9') {
                    while (i < text.length() && text.charAt(i) >= '0' && text.charAt(i) <= '9') {
                        i++;
                    }
                    kind = 'n';
                } else {
                    i++;
                    // A byte that is no sign of these languages must not be taken for one of our kinds.
                    kind = c == 'w' || c == 'n' || c == '$' ? '?' : c;
                }
                put(kind, from, text.substring(from, i));
            }
            put('$', text.length(), "");
        }

        private void put(char kind, int at, String what) {
            Token t = new Token();
            t.kind = kind;
            t.at = at;
            t.what = what;
            tokens.add(t);
        }

        Token peek() {
            return tokens.get(next);
        }

        boolean is(String word) {
            return peek().kind == 'w' && peek().what.equals(word);
        }

        void need(String word) {
            if (!is(word)) {
                throw new Fault(1, peek().at);
            }
            next++;
        }

        void sign(char c) {
            if (peek().kind != c) {
                throw new Fault(1, peek().at);
            }
            next++;
        }

        int number(int least, int most, int faultAt) {
            Token t = peek();
            if (t.kind != 'n') {
                throw new Fault(1, t.at);
            }
            int where = faultAt == NONE ? t.at : faultAt;
            if (t.what.length() > 3) {
                throw new Fault(2, where);
            }
            int v = Integer.parseInt(t.what);
            if (v < least || v > most) {
                throw new Fault(2, where);
            }
            next++;
            return v;
        }

        int signed() {
            Token t = peek();
            if (t.kind != '-') {
                return number(0, 999, NONE);
            }
            next++;
            if (peek().kind != 'n' || peek().at != t.at + 1) {
                throw new Fault(1, t.at + 1);
            }
            return -number(0, 999, t.at);
        }
    }

    int feed(int n, long bytes) {
        if (n < 1 || n > 8) {
            return OUTSIDE;
        }
        if (text.length() + n > 160) {
            return FULL;
        }
        for (int i = n - 1; i >= 0; i--) {
            text += (char) ((bytes >> 8 * i) & 255);
        }
        return text.length();
    }

    int plait() {
        Reader r = new Reader(text);
        text = "";
        try {
            List<Piece> told = new ArrayList<>();
            int toldLength = 50;
            boolean has = false;
            while (r.peek().kind != '$') {
                Token t = r.peek();
                if (r.is("length")) {
                    if (has) {
                        throw new Fault(5, t.at);
                    }
                    has = true;
                    r.next++;
                    toldLength = r.number(20, 200, NONE);
                } else {
                    r.need("piece");
                    int at = r.peek().at;
                    int c = r.number(1, 12, NONE);
                    if (told.size() + c > 12) {
                        throw new Fault(4, at);
                    }
                    r.need("strands");
                    at = r.peek().at;
                    int s = r.number(1, 16, NONE);
                    if (!told.isEmpty() && s > told.get(told.size() - 1).strands) {
                        throw new Fault(3, at);
                    }
                    int f = 0;
                    if (r.is("stuff")) {
                        r.next++;
                        f = r.number(0, 3, NONE);
                    }
                    for (int i = 0; i < c; i++) {
                        told.add(new Piece(s, f));
                    }
                }
                r.sign(';');
            }
            if (told.isEmpty()) {
                throw new Fault(1, r.text.length());
            }
            pieces = told;
            length = toldLength;
            faultAt = NONE;
            return pieces.size();
        } catch (Fault f) {
            faultAt = f.at;
            return -10 - f.number;
        }
    }

    int way() {
        Reader r = new Reader(text);
        text = "";
        try {
            List<int[]> told = clauses(r, 0);
            if (r.peek().kind != '$') {
                throw new Fault(1, r.peek().at);
            }
            int sum = 0;
            for (int[] s : told) {
                sum += s[2];
            }
            if (sum > 60) {
                throw new Fault(4, r.text.length());
            }
            steps = told;
            faultAt = NONE;
            return sum;
        } catch (Fault f) {
            faultAt = f.at;
            return -10 - f.number;
        }
    }

    private static List<int[]> clauses(Reader r, int depth) {
        List<int[]> told = new ArrayList<>();
        do {
            int at = r.peek().at;
            if (r.is("go")) {
                r.next++;
                int x = r.signed();
                int y = r.signed();
                r.need("for");
                told.add(new int[] {x, y, r.number(1, 30, NONE)});
                r.sign(';');
            } else if (r.is("hold")) {
                r.next++;
                told.add(new int[] {0, 0, r.number(1, 30, NONE)});
                r.sign(';');
            } else {
                r.need("times");
                if (depth == 3) {
                    throw new Fault(3, at);
                }
                int m = r.number(2, 9, NONE);
                r.sign('(');
                List<int[]> inner = clauses(r, depth + 1);
                r.sign(')');
                for (int i = 0; i < m; i++) {
                    told.addAll(inner);
                }
            }
        } while (r.peek().kind == 'w' || depth == 0 && r.peek().kind != '$'
                || depth > 0 && r.peek().kind != ')' && r.peek().kind != '$');
        return told;
    }

    // ---------------------------------------------------------------- throws

    static int root(BigInteger n) {
        return n.sqrt().intValueExact();
    }

    static BigInteger big(long v) {
        return BigInteger.valueOf(v);
    }

    /** The quotient cut towards 0 of a product of whole numbers. */
    static int cutOf(long divisor, long... factors) {
        BigInteger p = BigInteger.ONE;
        for (long f : factors) {
            p = p.multiply(big(f));
        }
        return p.divide(big(divisor)).intValueExact();
    }

    static int dist(long a, long b) {
        return root(big(a).multiply(big(a)).add(big(b).multiply(big(b))));
    }

    int ticks() {
        int sum = 0;
        for (int[] s : steps) {
            sum += s[2];
        }
        return sum;
    }

    /** The places [tick][joint][x, y] of a THROW. */
    int[][][] thrown(List<Piece> plait, int hand) {
        int n = plait.size();
        int all = ticks();
        int[][] hands = new int[all + 1][2];
        int t = 0;
        for (int[] s : steps) {
            int[] from = hands[t];
            for (int i = 1; i <= s[2]; i++) {
                t++;
                hands[t] = new int[] {from[0] + cutOf(s[2], s[0], i), from[1] + cutOf(s[2], s[1], i)};
            }
        }
        int[][][] at = new int[all + 1][n + 1][2];
        for (int k = 0; k <= n; k++) {
            at[0][k][0] = k * length;
        }
        for (t = 1; t <= all; t++) {
            for (int k = 0; k <= n; k++) {
                at[t][k] = at[t - 1][k].clone();
            }
            at[t][0] = new int[] {cutOf(100, hands[t][0], hand), cutOf(100, hands[t][1], hand)};
            for (int k = 1; k <= n; k++) {
                goOn(plait.get(k - 1).weight(), at[t][k], t == 1 ? at[0][k] : at[t - 2][k]);
            }
            for (int k = 2; k <= n; k++) {
                for (int c = 0; c < 2; c++) {
                    int q = 2 * at[t][k - 1][c] - at[t][k - 2][c];
                    at[t][k][c] += cutOf(1000, q - at[t][k][c], plait.get(k - 1).bends());
                }
            }
            for (int round = 1; round <= laws[2]; round++) {
                for (int k = 1; k <= n; k++) {
                    pull(plait, at[t], k);
                }
            }
            for (int k = 1; k <= n; k++) {
                int a = at[t][k][0] - at[t][k - 1][0], b = at[t][k][1] - at[t][k - 1][1];
                int d = dist(a, b);
                if (d > length) {
                    at[t][k][0] = at[t][k - 1][0] + cutOf(d, a, length);
                    at[t][k][1] = at[t][k - 1][1] + cutOf(d, b, length);
                }
            }
        }
        return at;
    }

    private void goOn(int w, int[] place, int[] before) {
        int u = place[0] - before[0], v = place[1] - before[1];
        int p = dist(u, v);
        if (laws[0] * p < 1000 * w) {
            place[0] += cutOf(1000L * w, u, 1000L * w - laws[0] * p);
            place[1] += cutOf(1000L * w, v, 1000L * w - laws[0] * p);
        }
        place[1] -= laws[1];
    }

    private void pull(List<Piece> plait, int[][] at, int k) {
        int[] move = {at[k][0] - at[k - 1][0], at[k][1] - at[k - 1][1]};
        int d = dist(move[0], move[1]);
        if (d <= length) {
            return;
        }
        int e = d - length;
        for (int c = 0; c < 2; c++) {
            if (k == 1) {
                at[k][c] += cutOf(d, -move[c], e);
            } else {
                int w = plait.get(k - 2).weight(), x = plait.get(k - 1).weight();
                at[k][c] -= cutOf((long) d * (w + x), move[c], e, w);
                at[k - 1][c] += cutOf((long) d * (w + x), move[c], e, x);
            }
        }
    }

    int[][][] thrown() {
        return thrown(pieces, given);
    }

    static int speedIn(int[][][] at, int k, int t) {
        return t == 0 ? 0 : dist(at[t][k][0] - at[t - 1][k][0], at[t][k][1] - at[t - 1][k][1]);
    }

    static int loopIn(int[][] at) {
        int found = NONE;
        long least = 0;
        for (int k = at.length - 2; k >= 1; k--) {
            long dot = 0;
            for (int c = 0; c < 2; c++) {
                dot += (long) (at[k][c] - at[k - 1][c]) * (at[k + 1][c] - at[k][c]);
            }
            if (dot < 0 && dot <= least) {
                least = dot;
                found = k;
            }
        }
        return found;
    }

    /** All CRACKS of a THROW: {tick, joint}. */
    List<int[]> cracks(int[][][] at) {
        List<int[]> found = new ArrayList<>();
        for (int t = 1; t < at.length; t++) {
            for (int k = 1; k < at[t].length; k++) {
                if (speedIn(at, k, t) >= laws[3] && speedIn(at, k, t - 1) < laws[3]) {
                    found.add(new int[] {t, k});
                }
            }
        }
        return found;
    }

    // ---------------------------------------------------------------- calls

    int fault() {
        return faultAt;
    }

    int piece(int i, int what) {
        if (i < 0 || i >= pieces.size()) {
            return UNKNOWN;
        }
        if (what < 0 || what > 5) {
            return OUTSIDE;
        }
        Piece p = pieces.get(i);
        int fewer = i > 0 && pieces.get(i - 1).strands > p.strands ? 1 : 0;
        return new int[] {p.strands, p.stuff, p.weight(), p.bends(), p.wear, fewer}[what];
    }

    int law(int what, int v) {
        int[][] bounds = {{0, 50}, {0, 50}, {1, 8}, {10, 2000}, {1, 30000}};
        if (what < 0 || what > 4 || v < bounds[what][0] || v > bounds[what][1]) {
            return OUTSIDE;
        }
        int was = laws[what];
        laws[what] = v;
        return was;
    }

    int give(int v) {
        if (v < 10 || v > 200) {
            return OUTSIDE;
        }
        int was = given;
        given = v;
        return was;
    }

    int count(int what) {
        if (what < 0 || what > 9) {
            return OUTSIDE;
        }
        int strands = 0;
        for (Piece p : pieces) {
            strands += p.strands;
        }
        return new int[] {pieces.size(), length, ticks(), steps.size(), text.length(), strands,
            hides.size(), cuts.size(), places.size(), given}[what];
    }

    int joint(int k, int tick, int what) {
        if (k < 0 || k > pieces.size() || tick < 0 || tick > ticks()) {
            return UNKNOWN;
        }
        if (what < 0 || what > 1) {
            return OUTSIDE;
        }
        return thrown()[tick][k][what];
    }

    int speed(int k, int tick) {
        if (k < 0 || k > pieces.size() || tick < 1 || tick > ticks()) {
            return UNKNOWN;
        }
        return speedIn(thrown(), k, tick);
    }

    long force(int k, int tick) {
        if (k < -1 || k == 0 || k > pieces.size() || tick < 1 || tick > ticks()) {
            return UNKNOWN;
        }
        int[][][] at = thrown();
        long sum = 0;
        for (int j = 1; j <= pieces.size(); j++) {
            if (k == NONE || k == j) {
                long a = at[tick][j][0] - at[tick - 1][j][0], b = at[tick][j][1] - at[tick - 1][j][1];
                sum += pieces.get(j - 1).weight() * (a * a + b * b);
            }
        }
        return sum;
    }

    int loop(int tick) {
        return tick < 0 || tick > ticks() ? UNKNOWN : loopIn(thrown()[tick]);
    }

    int crack(int i, int what) {
        if (what < 0 || what > 6) {
            return OUTSIDE;
        }
        int[][][] at = thrown();
        List<int[]> all = cracks(at);
        if (i == NONE) {
            return all.size();
        }
        if (i < 0 || i >= all.size()) {
            return UNKNOWN;
        }
        int t = all.get(i)[0], k = all.get(i)[1];
        int loop = loopIn(at[t]);
        int of = loop == k || loop == k - 1 && loop > 0 ? 1 : k == pieces.size() ? 0 : 2;
        int far = dist(at[t][k][0] - ear[0], at[t][k][1] - ear[1]);
        int speed = speedIn(at, k, t);
        int loud = cutOf(far + 1, speed, pieces.get(k - 1).weight(), 1000);
        return new int[] {t, k, of, t + far / laws[3], loud, far, speed}[what];
    }

    int turned(int[][][] at) {
        int sum = 0, was = 0;
        for (int t = 0; t < at.length; t++) {
            int[] tip = at[t][pieces.size()];
            boolean right = tip[0] > post[0], left = tip[0] < post[0];
            boolean above = tip[1] > post[1], below = tip[1] < post[1];
            int is = was;
            if (right && !below) {
                is = 0;
            } else if (!right && above) {
                is = 1;
            } else if (left && !above) {
                is = 2;
            } else if (!left && below) {
                is = 3;
            }
            if (t > 0 && is == (was + 1) % 4) {
                sum++;
            }
            if (t > 0 && was == (is + 1) % 4) {
                sum--;
            }
            was = is;
        }
        return sum;
    }

    int turns() {
        return 100 + turned(thrown());
    }

    int kind() {
        int[][][] at = thrown();
        if (Math.abs(turned(at)) >= 4) {
            return 5;
        }
        List<int[]> all = cracks(at);
        for (int[] a : all) {
            for (int[] b : all) {
                if (b[0] - a[0] >= 3) {
                    return 4;
                }
            }
        }
        if (!all.isEmpty()) {
            return 3;
        }
        for (int[][] row : at) {
            for (int[] place : row) {
                if (place[1] > row[0][1] + 2 * length) {
                    return 2;
                }
            }
        }
        for (int[][] row : at) {
            if (loopIn(row) != NONE) {
                return 1;
            }
        }
        return 0;
    }

    static boolean off(int v, int most) {
        return Math.abs((long) v) > most;
    }

    int put(int what, int x, int y) {
        if (what < 0 || what > 1 || off(x, 5000) || off(y, 5000)) {
            return OUTSIDE;
        }
        if (what == 0) {
            ear = new int[] {x, y};
        } else {
            post = new int[] {x, y};
        }
        return 1;
    }

    int near() {
        int[][][] at = thrown();
        int least = NONE;
        for (int[] c : cracks(at)) {
            int far = dist(at[c[0]][c[1]][0] - ear[0], at[c[0]][c[1]][1] - ear[1]);
            least = least == NONE || far < least ? far : least;
        }
        return least;
    }

    int leastHand() {
        for (int g = 10; g <= 200; g += 10) {
            if (!cracks(thrown(pieces, g)).isEmpty()) {
                return g;
            }
        }
        return NONE;
    }

    int loudest(int s, int i) {
        if (s < 1 || s > 96) {
            return OUTSIDE;
        }
        if (pieces.size() > 8) {
            return NOT;
        }
        List<int[]> rows = new ArrayList<>();
        rows(rows, new int[0], s);
        int best = NONE;
        int[] bestRow = null;
        for (int[] row : rows) {
            List<Piece> plait = new ArrayList<>();
            for (int j = 0; j < row.length; j++) {
                plait.add(new Piece(row[j], pieces.get(j).stuff));
            }
            int[][][] at = thrown(plait, given);
            int most = 0;
            for (int t = 1; t < at.length; t++) {
                for (int k = 1; k <= row.length; k++) {
                    most = Math.max(most, speedIn(at, k, t));
                }
            }
            if (most > best) {
                best = most;
                bestRow = row;
            }
        }
        if (bestRow == null || i == NONE) {
            return best;
        }
        return i < 0 || i >= bestRow.length ? NONE : bestRow[i];
    }

    private void rows(List<int[]> rows, int[] ahead, int left) {
        if (ahead.length == pieces.size()) {
            rows.add(ahead);
            return;
        }
        for (int strands : new int[] {12, 8, 6, 4, 2}) {
            if (strands <= left && (ahead.length == 0 || strands <= ahead[ahead.length - 1])) {
                int[] more = Arrays.copyOf(ahead, ahead.length + 1);
                more[ahead.length] = strands;
                rows(rows, more, left - strands);
            }
        }
    }

    int aim(int x, int y, int a, int b, int what) {
        int all = ticks();
        if (off(x, 5000) || off(y, 5000) || a < 0 || a > all || b < 0 || b > all || a > b || what < 0 || what > 1) {
            return OUTSIDE;
        }
        return aimIn(thrown(), x, y, a, b)[what];
    }

    private static int[] aimIn(int[][][] at, int x, int y, int a, int b) {
        int least = Integer.MAX_VALUE, tick = NONE;
        for (int t = b; t >= a; t--) {
            int[] tip = at[t][at[t].length - 1];
            int d = dist(tip[0] - x, tip[1] - y);
            if (d <= least) {
                least = d;
                tick = t;
            }
        }
        return new int[] {least, tick};
    }

    int alone(int x, int y) {
        return off(x, 5000) || off(y, 5000) ? OUTSIDE : aloneIn(thrown(), x, y);
    }

    private static int aloneIn(int[][][] at, int x, int y) {
        int least = Integer.MAX_VALUE;
        for (int[][] row : at) {
            for (int[] place : row) {
                least = Math.min(least, dist(place[0] - x, place[1] - y));
            }
        }
        return least;
    }

    int bestAim(int x, int y, int r) {
        if (off(x, 5000) || off(y, 5000) || r < 0 || r > 9999) {
            return OUTSIDE;
        }
        int best = NONE, least = Integer.MAX_VALUE;
        for (int g = 200; g >= 10; g -= 10) {
            int[][][] at = thrown(pieces, g);
            int d = aimIn(at, x, y, 1, at.length - 1)[0];
            if (aloneIn(at, ear[0], ear[1]) >= r && d <= least) {
                least = d;
                best = g;
            }
        }
        return best;
    }

    int close(int d, int hand, int o) {
        if (off(d, 5000) || hand < 10 || hand > 200 || o < 0 || o > 30) {
            return OUTSIDE;
        }
        int[][][] one = thrown(), two = thrown(pieces, hand);
        int all = ticks();
        int least = Integer.MAX_VALUE;
        for (int t = 0; t <= all + o; t++) {
            int[][] mine = one[t > all ? all : t];
            int[][] its = two[t < o ? 0 : t - o > all ? all : t - o];
            for (int[] a : mine) {
                for (int[] b : its) {
                    least = Math.min(least, dist(d - b[0] - a[0], b[1] - a[1]));
                }
            }
        }
        return least;
    }

    int rhythm(int d, int hand, int h, int c) {
        if (off(d, 5000) || hand < 10 || hand > 200 || off(h, 60) || c < 0 || c > 9999) {
            return OUTSIDE;
        }
        List<int[]> one = cracks(thrown()), two = cracks(thrown(pieces, hand));
        if (one.isEmpty() || two.isEmpty()) {
            return NONE;
        }
        for (int o = 0; o <= 30; o++) {
            if (two.get(0)[0] + o - one.get(0)[0] == h && close(d, hand, o) >= c) {
                return o;
            }
        }
        return NONE;
    }

    int crackOn() {
        int[][][] at = thrown();
        for (int i = 0; i < pieces.size(); i++) {
            int sum = 0;
            for (int t = 1; t < at.length; t++) {
                sum += speedIn(at, i + 1, t);
            }
            pieces.get(i).wear += sum * STUFF[pieces.get(i).stuff][2] / 100;
        }
        int were = pieces.size();
        for (int i = 1; i < pieces.size(); i++) {
            if (pieces.get(i).wear >= laws[4]) {
                pieces = new ArrayList<>(pieces.subList(0, i));
            }
        }
        return were - pieces.size();
    }

    int evening(int n) {
        if (n < 1 || n > 40) {
            return OUTSIDE;
        }
        int done = 0;
        while (done < n) {
            done++;
            if (crackOn() != 0) {
                break;
            }
        }
        return done;
    }

    int lay(int what, int lengthOfIt) {
        if (what < 0 || what > 1 || lengthOfIt < 1 || lengthOfIt > 999) {
            return OUTSIDE;
        }
        List<Integer> to = what == 0 ? hides : cuts;
        if (to.size() == (what == 0 ? 6 : 8)) {
            return FULL;
        }
        to.add(lengthOfIt);
        return to.size();
    }

    int clear() {
        int were = hides.size() + cuts.size();
        hides.clear();
        cuts.clear();
        return were;
    }

    int cut() {
        for (int many = 0; many <= hides.size(); many++) {
            for (int set = 0; set < 1 << hides.size(); set++) {
                if (Integer.bitCount(set) == many && fits(set, 0, new int[hides.size()])) {
                    return set;
                }
            }
        }
        return NONE;
    }

    private boolean fits(int set, int strand, int[] used) {
        if (strand == cuts.size()) {
            return true;
        }
        for (int h = 0; h < used.length; h++) {
            if ((set >> h & 1) == 1 && used[h] + cuts.get(strand) <= hides.get(h)) {
                used[h] += cuts.get(strand);
                if (fits(set, strand + 1, used)) {
                    return true;
                }
                used[h] -= cuts.get(strand);
            }
        }
        return false;
    }

    int film(int x, int y) {
        if (off(x, 9999) || off(y, 9999)) {
            return OUTSIDE;
        }
        if (places.size() == 60) {
            return FULL;
        }
        places.add(new int[] {x, y});
        return places.size();
    }

    int blank() {
        int had = places.size();
        places.clear();
        return had;
    }

    int told(int what) {
        if (what < 0 || what > 1) {
            return OUTSIDE;
        }
        if (places.isEmpty()) {
            return NOT;
        }
        int best = NONE, least = Integer.MAX_VALUE;
        for (int g = 10; g <= 200; g += 10) {
            int[][][] at = thrown(pieces, g);
            int sum = 0;
            for (int t = 1; t < at.length; t++) {
                if (t <= places.size()) {
                    int[] tip = at[t][pieces.size()];
                    sum += Math.abs(tip[0] - places.get(t - 1)[0]) + Math.abs(tip[1] - places.get(t - 1)[1]);
                }
            }
            if (sum < least) {
                least = sum;
                best = g;
            }
        }
        return what == 0 ? best : least;
    }

    int keep(int i) {
        if (i < 0 || i > 1) {
            return UNKNOWN;
        }
        Image m = new Image();
        m.length = length;
        m.pieces = copied(pieces);
        m.steps = steps;
        m.laws = laws.clone();
        images[i] = m;
        return 1;
    }

    int goBack(int i) {
        if (i < 0 || i > 1) {
            return UNKNOWN;
        }
        if (images[i] == null) {
            return NOT;
        }
        length = images[i].length;
        pieces = copied(images[i].pieces);
        steps = images[i].steps;
        laws = images[i].laws.clone();
        return 1;
    }

    private static List<Piece> copied(List<Piece> from) {
        List<Piece> to = new ArrayList<>();
        for (Piece p : from) {
            Piece q = new Piece(p.strands, p.stuff);
            q.wear = p.wear;
            to.add(q);
        }
        return to;
    }
}
