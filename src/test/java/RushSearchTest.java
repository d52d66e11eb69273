import java.util.Arrays;
import java.util.HashSet;
import java.util.Random;
import java.util.Set;

/** Small HALLs in which every way that all can go is tried, MINUTE by MINUTE, as term IV tells them: no flow is thought of. */
public final class RushSearchTest {
    private static final Random chance = new Random(4L);

    private int rows;
    private int seats;
    private int[] room;
    private int[] wide;
    private int[] exitSpots;
    private int[] wides;
    private int[] start;

    public static void main(String[] args) {
        for (int run = 0; run < 700 && !Asked.isWrong(); run++) {
            new RushSearchTest().hold();
        }
        Asked.close();
    }

    private void hold() {
        Asked asked = new Asked();
        String text = draw();
        asked.tell(text);
        int sitting = Arrays.stream(start).sum();
        for (int wider = -1; wider < exitSpots.length; wider++) {
            int soonest = sitting == 0 ? 0 : -1;
            int[] outs = outs(wider, 6);
            for (int n = 0; n <= 6; n++) {
                String call = "out(0, " + n + ") of " + text + (wider < 0 ? "" : " with a wider " + wider);
                int more = wider < 0 ? 0 : asked.x.wider(0, n, wider);
                Asked.due(call, asked.x.out(0, n) + more, outs[n]);
                soonest = soonest < 0 && outs[n] == sitting ? n : soonest;
            }
            if (wider < 0 && soonest >= 0) {
                Asked.due("soonest(0) of " + text, asked.x.soonest(0), soonest);
            }
        }
    }

    private String draw() {
        int[][] sizes = {{1, 1}, {1, 2}, {1, 3}, {1, 5}, {2, 2}, {2, 3}, {3, 2}, {4, 1}};
        int[] size = sizes[chance.nextInt(sizes.length)];
        rows = size[0];
        seats = size[1];
        int spots = rows * seats;
        StringBuilder text = new StringBuilder("hall rows " + rows + " seats " + seats + " law 0;");
        int exits = Math.min(spots, chance.nextInt(3));
        int first = chance.nextInt(spots);
        int apart = 1 + chance.nextInt(Math.max(1, spots - 1));
        exitSpots = new int[exits];
        wides = new int[exits];
        boolean[] good = new boolean[exits];
        for (int e = 0; e < exits; e++) {
            exitSpots[e] = (first + e * apart) % spots;
            good[e] = chance.nextInt(5) > 0;
            text.append("place " + exitSpots[e] / seats + " " + exitSpots[e] % seats + " to " + (good[e] ? 4 * chance.nextInt(2) : 2)
                + " then 8;");
        }
        for (int e = 0; e < exits; e++) {
            wides[e] = 1 + chance.nextInt(3);
            text.append("exit " + e + " wide " + wides[e] + ";");
            wides[e] = good[e] ? wides[e] : 0;
        }
        start = new int[spots];
        for (int spot = 0; spot < spots; spot++) {
            if (chance.nextInt(4) > 0 && Arrays.stream(start).sum() < 5) {
                start[spot] = 1;
                text.append("sits " + spot / seats + " " + spot % seats + ";");
            }
        }
        return text.toString();
    }

    /** The most that are out within each number of MINUTES. */
    private int[] outs(int wider, int most) {
        wide = new int[rows * seats];
        room = new int[rows * seats];
        for (int e = 0; e < exitSpots.length; e++) {
            wide[exitSpots[e]] += wides[e] == 0 ? 0 : wides[e] + (e == wider ? 1 : 0);
        }
        for (int spot = 0; spot < room.length; spot++) {
            room[spot] = wide[spot] > 0 ? wide[spot] : 1;
        }
        int sitting = Arrays.stream(start).sum();
        Set<String> now = new HashSet<>(Set.of(key(start)));
        int[] outs = new int[most + 1];
        for (int n = 1; n <= most; n++) {
            Set<String> then = new HashSet<>();
            for (String state : now) {
                int[] here = state(state);
                go(here, 0, wide.clone(), new int[here.length], then);
            }
            now = then;
            for (String state : now) {
                outs[n] = Math.max(outs[n], sitting - Arrays.stream(state(state)).sum());
            }
        }
        return outs;
    }

    /** One after another of those that are here goes each way that it can. */
    private void go(int[] here, int from, int[] outLeft, int[] then, Set<String> found) {
        int spot = from;
        while (spot < here.length && here[spot] == 0) {
            spot++;
        }
        if (spot == here.length) {
            found.add(key(then));
            return;
        }
        here[spot]--;
        if (outLeft[spot] > 0) {
            outLeft[spot]--;
            go(here, spot, outLeft, then, found);
            outLeft[spot]++;
        }
        int row = spot / seats;
        int seat = spot % seats;
        int[][] ways = {{row, seat}, {row - 1, seat}, {row + 1, seat}, {row, seat - 1}, {row, seat + 1}};
        for (int[] way : ways) {
            int to = way[0] * seats + way[1];
            boolean is = way[0] >= 0 && way[0] < rows && way[1] >= 0 && way[1] < seats;
            if (is && then[to] < room[to]) {
                then[to]++;
                go(here, spot, outLeft, then, found);
                then[to]--;
            }
        }
        here[spot]++;
    }

    private static String key(int[] state) {
        StringBuilder key = new StringBuilder();
        for (int n : state) {
            key.append((char) ('0' + n));
        }
        return key.toString();
    }

    private static int[] state(String key) {
        return key.chars().map(c -> c - '0').toArray();
    }
}
