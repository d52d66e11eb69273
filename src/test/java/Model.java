import java.util.ArrayList;
import java.util.Arrays;
import java.util.List;

/** The document once more, in its slowest and plainest form, for ModelTest to hold the program against. */
final class Model {
    int rows, seats, law, lines;
    List<int[]> places = new ArrayList<>(); // row, seat, to, then
    List<int[]> exits = new ArrayList<>(); // place, wide, from, to
    boolean[][] taken = new boolean[6][6];
    List<Runnable> takeBack = new ArrayList<>();
    long[][] slots = new long[4][];
    int[] widths = new int[4];

    boolean act(int a) { return a >= 0 && a <= 59; }
    boolean seat(int r, int s) { return r >= 0 && r < rows && s >= 0 && s < seats; }
    boolean place(long p) { return p >= 0 && p < places.size(); }
    boolean exit(long e) { return e >= 0 && e < exits.size(); }
    boolean told() { return lines > 0; }
    boolean acts(int n) { return n >= 1 && n <= 60; }
    boolean good(int p) { int to = places.get(p)[2]; return to == 0 || to == 4; }
    int steps(int r, int s, int p) { return Math.abs(r - places.get(p)[0]) + Math.abs(s - places.get(p)[1]) + 1; }
    boolean kings(int e, int a) { int[] x = exits.get(e); return x[2] != -1 && x[2] <= a && a <= x[3]; }

    int[] positions(int act) {
        int[] now = new int[exits.size()];
        for (int e = 0; e < now.length; e++) now[e] = exits.get(e)[0];
        for (int a = 0; a < act; a++) {
            int[] then = now.clone();
            for (int e = 0; e < now.length; e++) {
                if (kings(e, a) && kings(e, a + 1)) continue;
                int p = now[e];
                for (int turn = 1; turn <= 9; turn++) {
                    p = places.get(p)[3];
                    if (!place(p)) break;
                    boolean held = false;
                    for (int k = 0; k < now.length; k++) held |= kings(k, a) && kings(k, a + 1) && now[k] == p;
                    if (!held) { then[e] = p; break; }
                }
            }
            now = then;
        }
        return now;
    }

    int at(int e, int a) { return !exit(e) || !act(a) ? -2 : positions(a)[e]; }
    int who(int p, int a) {
        if (!place(p) || !act(a)) return -2;
        int bits = 0; int[] x = positions(a);
        for (int e = 0; e < x.length; e++) if (x[e] == p) bits += 1 << e;
        return bits;
    }
    int behind(int e, int a) { return !exit(e) || !act(a) ? -2 : places.get(positions(a)[e])[2]; }
    int leads(int a, int b) {
        if (!told() || !act(a) || b < 0 || b > 4) return -2;
        int bits = 0;
        for (int e = 0; e < exits.size(); e++) if (behind(e, a) == b) bits += 1 << e;
        return bits;
    }
    int doubles(int a) {
        if (!told() || !act(a)) return -2;
        int bits = 0;
        for (int p = 0; p < places.size(); p++) if (Integer.bitCount(who(p, a)) > 1) bits += 1 << p;
        return bits;
    }
    int slip() {
        if (!told()) return -2;
        for (int a = 0; a < 60; a++) if (doubles(a) > 0) return a;
        return -1;
    }
    int round() {
        if (!told()) return -2;
        for (int a = 1; a < 60; a++) if (Arrays.equals(positions(a), positions(0))) return a;
        return -1;
    }
    int again() {
        if (!told()) return -2;
        for (int a = 1; a < 60; a++) for (int b = 0; b < a; b++) if (Arrays.equals(positions(a), positions(b))) return a;
        return -1;
    }
    int next(int e, int p, int a) {
        if (!exit(e) || !place(p) || !act(a)) return -2;
        for (; a < 60; a++) if (at(e, a) == p) return a;
        return -1;
    }
    int sees(int e) {
        if (!exit(e)) return -2;
        int bits = 0;
        for (int a = 0; a < 60; a++) bits |= 1 << at(e, a);
        return bits;
    }
    int far(int r, int s, int a) {
        if (!seat(r, s) || !act(a)) return -2;
        int least = Integer.MAX_VALUE;
        for (int p : positions(a)) if (good(p)) least = Math.min(least, steps(r, s, p));
        return least == Integer.MAX_VALUE ? -1 : least;
    }
    int by(int r, int s, int a) {
        int far = far(r, s, a);
        if (far < 0) return far;
        int[] x = positions(a);
        for (int e = 0; e < x.length; e++) if (good(x[e]) && steps(r, s, x[e]) == far) return e;
        throw new IllegalStateException();
    }
    int falls(int r, int s, int a) {
        if (!seat(r, s) || !act(a)) return -2;
        int best = -1; int[] x = positions(a);
        for (int e = 0; e < x.length; e++) if (best < 0 || steps(r, s, x[e]) < steps(r, s, x[best])) best = e;
        return best < 0 ? -1 : places.get(x[best])[2];
    }
    int best(int a) {
        if (!told() || !act(a)) return -2;
        int best = -1, least = 99;
        for (int r = 0; r < rows; r++) for (int s = 0; s < seats; s++) {
            int f = far(r, s, a);
            if (f >= 0 && f < least) { least = f; best = 10 * r + s; }
        }
        return best;
    }
    int worst(int a) {
        if (!told() || !act(a)) return -2;
        int most = -1;
        for (int r = 0; r < rows; r++) for (int s = 0; s < seats; s++) most = Math.max(most, far(r, s, a));
        return most;
    }
    int kept(int a) { int w = worst(a); return w == -2 ? -2 : w >= 0 && w <= law ? 1 : 0; }
    int breaks(int a) {
        if (!told() || !act(a)) return -2;
        for (; a < 60; a++) if (kept(a) == 0) return a;
        return -1;
    }
    int screws(int a) {
        if (!told() || !act(a)) return -2;
        for (int b = a; b < 60; b++) if (kept(b) == 1) return b - a;
        return -1;
    }
    int lawful() {
        if (!told()) return -2;
        int n = 0;
        for (int a = 0; a < 60; a++) n += kept(a);
        return n;
    }

    /** A flow over every SEAT in every MINUTE, split in two for its bound, with staying by an EXIT left open. */
    int out(int a, int n, int wider) {
        if (!told() || !act(a) || n < 0 || n > 20) return -2;
        int[] x = positions(a);
        int[] wide = new int[36];
        for (int e = 0; e < x.length; e++) {
            int[] p = places.get(x[e]);
            if (good(x[e])) wide[p[0] * 6 + p[1]] += exits.get(e)[1] + (e == wider ? 1 : 0);
        }
        int nodes = 2 * 36 * (n + 1) + 2, source = nodes - 2, sink = nodes - 1;
        Flow flow = new Flow(nodes);
        for (int t = 0; t <= n; t++) for (int r = 0; r < rows; r++) for (int s = 0; s < seats; s++) {
            int here = 2 * (t * 36 + r * 6 + s), w = wide[r * 6 + s];
            flow.arc(here, here + 1, Math.max(1, w));
            if (t == 0 && taken[r][s]) flow.arc(source, here, 1);
            if (t == n) continue;
            if (w > 0) flow.arc(here + 1, sink, w);
            int[][] ways = {{0, 0}, {1, 0}, {-1, 0}, {0, 1}, {0, -1}};
            for (int[] d : ways) if (seat(r + d[0], s + d[1]))
                flow.arc(here + 1, 2 * ((t + 1) * 36 + (r + d[0]) * 6 + s + d[1]), 99);
        }
        return flow.most(source, sink);
    }
    int soonest(int a) {
        if (!told() || !act(a)) return -2;
        for (int n = 0; n <= 20; n++) if (out(a, n, -1) == sitting()) return n;
        return -1;
    }
    int quickest(int n) {
        if (!told() || !acts(n)) return -2;
        int best = -1, least = 99;
        for (int a = 0; a < n; a++) {
            int s = soonest(a);
            if (s >= 0 && s < least) { least = s; best = a; }
        }
        return best;
    }
    int wider(int a, int n, int e) {
        if (!exit(e) || !act(a) || n < 0 || n > 20) return -2;
        return out(a, n, e) - out(a, n, -1);
    }
    int sitting() {
        int n = 0;
        for (boolean[] row : taken) for (boolean is : row) n += is ? 1 : 0;
        return n;
    }

    int worstOf(int set) {
        int most = 0;
        for (int r = 0; r < rows; r++) for (int s = 0; s < seats; s++) {
            int least = 99;
            for (int p = 0; p < places.size(); p++) if ((set >> p & 1) == 1) least = Math.min(least, steps(r, s, p));
            most = Math.max(most, least);
        }
        return most;
    }
    /** {STAND, the least set}, of 1 .. n PLACES, all GOOD. */
    int[] standing(int n) {
        int[] found = {-1, -1};
        sets:
        for (int set = 1; set < 1 << places.size(); set++) {
            for (int p = 0; p < places.size(); p++) if ((set >> p & 1) == 1 && !good(p)) continue sets;
            if (Integer.bitCount(set) > n) continue;
            int w = worstOf(set);
            if (found[0] < 0 || w < found[0]) found = new int[] {w, set};
        }
        return found;
    }
    int stand(int n) { return !told() || n < 0 || n > 7 ? -2 : standing(n)[0]; }
    int stands(int n) { return !told() || n < 0 || n > 7 ? -2 : standing(n)[1]; }
    int needs() {
        if (!told()) return -2;
        for (int n = 0; n <= 7; n++) if (stand(n) >= 0 && stand(n) <= law) return n;
        return -1;
    }
    int wind(int a) {
        if (!told() || !act(a)) return -2;
        int n = 0; int[] x = positions(a);
        for (int e = 0; e < x.length; e++) for (int f = e + 1; f < x.length; f++) {
            int[] p = places.get(x[e]), q = places.get(x[f]);
            if (x[e] != x[f] && (p[0] == q[0] || p[1] == q[1])) n++;
        }
        return n;
    }
    int calmest(int n) {
        if (!told() || !acts(n)) return -2;
        int best = 0;
        for (int a = 0; a < n; a++) if (wind(a) < wind(best)) best = a;
        return best;
    }

    long seen(int slot) {
        if (slot < 0 || slot > 3 || !told()) return -2;
        long[] row = slots[slot];
        if (row == null) return -6;
        if (row.length % 2 != 0) return -2;
        for (int i = 0; i < row.length; i += 2) if (!exit(row[i]) || !place(row[i + 1])) return -2;
        long bits = 0;
        acts:
        for (int a = 0; a < 60; a++) {
            for (int i = 0; i < row.length; i += 2) if (at((int) row[i], a) != row[i + 1]) continue acts;
            bits |= 1L << a;
        }
        return bits;
    }
    int[] asking(int slot) {
        long bits = seen(slot);
        if (bits < 0) return new int[] {(int) bits, (int) bits};
        int[] found = {-1, Long.bitCount(bits)};
        for (int e = 0; e < exits.size(); e++) {
            int most = 0;
            for (int p = 0; p < places.size(); p++) {
                int n = 0;
                for (int a = 0; a < 60; a++) if ((bits >> a & 1) == 1 && at(e, a) == p) n++;
                most = Math.max(most, n);
            }
            if (most < found[1]) found = new int[] {e, most};
        }
        return found;
    }
    int ask(int slot) { return asking(slot)[0]; }
    int leaves(int slot) { return asking(slot)[1]; }
    long fell(int slot) {
        if (slot < 0 || slot > 3 || !told()) return -2;
        long[] row = slots[slot];
        if (row == null) return -6;
        if (row.length % 3 != 0) return -2;
        for (int i = 0; i < row.length; i += 3)
            if (row[i] < 0 || row[i] >= rows || row[i + 1] < 0 || row[i + 1] >= seats || row[i + 2] < 0 || row[i + 2] > 4)
                return -2;
        long bits = 0;
        acts:
        for (int a = 0; a < 60; a++) {
            for (int i = 0; i < row.length; i += 3)
                if (falls((int) row[i], (int) row[i + 1], a) != row[i + 2]) continue acts;
            bits |= 1L << a;
        }
        return bits;
    }
    int many(int slot) { long bits = fell(slot); return bits < 0 ? (int) bits : Long.bitCount(bits); }
    int sure(int slot, int e) {
        if (!exit(e)) return -2;
        long bits = fell(slot);
        if (bits < 0) return (int) bits;
        int seen = 0;
        for (int a = 0; a < 60; a++) if ((bits >> a & 1) == 1) seen |= 1 << at(e, a);
        return Integer.bitCount(seen) == 1 ? Integer.numberOfTrailingZeros(seen) : -1;
    }

    int known(int r, int s, int n) {
        if (!seat(r, s) || !acts(n)) return -2;
        int sum = 0;
        for (int a = 0; a < n; a++) sum += far(r, s, a) < 0 ? 50 : far(r, s, a);
        return sum;
    }
    int[] going(int r, int s, int n) {
        if (!seat(r, s) || !acts(n) || places.isEmpty()) return new int[] {-2, -2};
        int[] found = {-1, Integer.MAX_VALUE};
        for (int p = 0; p < places.size(); p++) {
            int sum = 0;
            for (int a = 0; a < n; a++) sum += who(p, a) != 0 && good(p) ? steps(r, s, p) : 50;
            if (sum < found[1]) found = new int[] {p, sum};
        }
        return found;
    }
    int goes(int r, int s, int n) { return going(r, s, n)[0]; }
    int blind(int r, int s, int n) { return going(r, s, n)[1]; }
    int worth(int n) {
        if (!told() || !acts(n) || places.isEmpty()) return -2;
        int sum = 0;
        for (int r = 0; r < rows; r++) for (int s = 0; s < seats; s++) if (taken[r][s]) sum += blind(r, s, n) - known(r, s, n);
        return sum;
    }
    int lured(int a, int b) {
        if (!told() || !act(a) || b < 0 || b > 4) return -2;
        int n = 0;
        for (int r = 0; r < rows; r++) for (int s = 0; s < seats; s++) if (taken[r][s] && falls(r, s, a) == b) n++;
        return n;
    }
    int danger(int b) {
        if (!told() || b < 0 || b > 4) return -2;
        int best = 0;
        for (int a = 0; a < 60; a++) if (lured(a, b) > lured(best, b)) best = a;
        return best;
    }
    int[] claqued(int e, int a) {
        if (!exit(e) || !act(a)) return new int[] {-2, -2};
        for (int n = 0; n < 60; n++) {
            int p = at(e, a);
            if (good(p)) return new int[] {n, p};
            e = e + 1 == exits.size() ? 0 : e + 1;
            a = a == 59 ? 0 : a + 1;
        }
        return new int[] {-1, -1};
    }
    int claque(int e, int a) { return claqued(e, a)[0]; }
    int lastly(int e, int a) { return claqued(e, a)[1]; }

    int screw(int p, int then) {
        if (!place(p) || then < 0 || then > 8) return -2;
        if (takeBack.size() == 40) return -5;
        int[] x = places.get(p); int was = x[3];
        takeBack.add(() -> x[3] = was);
        x[3] = then;
        return was;
    }
    int king(int e, int from, int to) {
        if (!exit(e) || !(from == -1 && to == -1) && !(act(from) && act(to) && from <= to)) return -2;
        if (takeBack.size() == 40) return -5;
        int[] x = exits.get(e); int wasFrom = x[2], wasTo = x[3];
        takeBack.add(() -> { x[2] = wasFrom; x[3] = wasTo; });
        x[2] = from; x[3] = to;
        return 0;
    }
    int seats(int r, int s, int is) {
        if (!seat(r, s) || is != 0 && is != 1) return -2;
        if (takeBack.size() == 40) return -5;
        boolean was = taken[r][s];
        takeBack.add(() -> taken[r][s] = was);
        taken[r][s] = is == 1;
        return was ? 1 : 0;
    }
    int undo() {
        if (!told()) return -2;
        if (takeBack.isEmpty()) return -5;
        takeBack.remove(takeBack.size() - 1).run();
        return takeBack.size();
    }

    int[] crowd(long seed, int a) {
        int[] to = new int[6];
        long x = seed;
        for (int r = 0; r < rows; r++) for (int s = 0; s < seats; s++) if (taken[r][s]) {
            x = java.math.BigInteger.valueOf(x).multiply(java.math.BigInteger.valueOf(1103515245L))
                .add(java.math.BigInteger.valueOf(12345)).mod(java.math.BigInteger.TWO.pow(31)).longValueExact();
            int e = (int) ((x / 65536) % exits.size());
            to[behind(e, a)]++;
            to[5] += steps(r, s, at(e, a));
        }
        return to;
    }
    int drawn(int seed, int a, int what) {
        if (seed < 0 || seed > 2000000000 || !act(a) || what < 0 || what > 5 || exits.isEmpty()) return -2;
        return crowd(seed, a)[what];
    }
    int lucky(int seed, int n, int a) {
        if (seed < 0 || seed > 2000000000 || !act(a) || n < 1 || n > 20 || exits.isEmpty()) return -2;
        int all = 0;
        for (int k = 0; k < n; k++) {
            int[] to = crowd((long) seed + k, a);
            if (to[1] == 0 && to[2] == 0 && to[3] == 0) all++;
        }
        return all;
    }

    int row(int slot, int width, int n) {
        if (slot < 0 || slot > 3 || width < 0 || width > 3 || n > 60) return -2;
        if (n < 0) return -3;
        slots[slot] = new long[n];
        widths[slot] = width;
        return 0;
    }
    int write(int slot, int i, long v) {
        if (slot < 0 || slot > 3) return -2;
        if (slots[slot] == null) return -6;
        if (i < 0 || i >= slots[slot].length) return -7;
        int bits = 8 << widths[slot];
        slots[slot][i] = bits == 64 ? v : v & ((1L << bits) - 1);
        return 0;
    }
    int paste(int slot, int i, int to, int k, int n) {
        if (slot < 0 || slot > 3 || to < 0 || to > 3) return -2;
        if (slots[slot] == null || slots[to] == null) return -6;
        if (widths[slot] != widths[to]) return -8;
        if (i < 0 || k < 0 || n < 0 || (long) i + n > slots[slot].length || (long) k + n > slots[to].length) return -7;
        long[] were = Arrays.copyOfRange(slots[slot], i, i + n);
        for (int j = 0; j < n; j++) slots[to][k + j] = were[j];
        return 0;
    }

    /** The most that flows, by the shortest way that is left, again and again. */
    private static final class Flow {
        final List<List<int[]>> arcs = new ArrayList<>();
        final List<int[]> all = new ArrayList<>();

        Flow(int nodes) { for (int i = 0; i < nodes; i++) arcs.add(new ArrayList<>()); }

        void arc(int from, int to, int room) {
            int[] there = {from, to, room}, back = {to, from, 0};
            arcs.get(from).add(new int[] {all.size()});
            all.add(there);
            arcs.get(to).add(new int[] {all.size()});
            all.add(back);
        }

        int most(int source, int sink) {
            int sum = 0;
            while (true) {
                int[] came = new int[arcs.size()];
                Arrays.fill(came, -1);
                List<Integer> queue = new ArrayList<>(List.of(source));
                for (int head = 0; head < queue.size() && came[sink] < 0; head++)
                    for (int[] i : arcs.get(queue.get(head))) {
                        int[] arc = all.get(i[0]);
                        if (arc[2] > 0 && came[arc[1]] < 0 && arc[1] != source) { came[arc[1]] = i[0]; queue.add(arc[1]); }
                    }
                if (came[sink] < 0) return sum;
                for (int node = sink; node != source; node = all.get(came[node])[0]) {
                    all.get(came[node])[2]--;
                    all.get(came[node] ^ 1)[2]++;
                }
                sum++;
            }
        }
    }
}
