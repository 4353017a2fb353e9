import java.util.Arrays;
import java.util.Random;

/** Promise 15 with many plants: moves() against a table of the cheapest way to every filling of the beds. */
public final class MovesTest {
    private static final int RUNS = 800;
    private static final int FAR = 1000;

    public static void main(String[] args) {
        int[] seen = new int[42];
        for (int run = 0; run < RUNS; run++) {
            int answer = play(run, new Random(run));
            seen[answer + 1]++;
        }
        Due.yes("some runs cannot be", seen[0] > 5);
        Due.yes("some runs move many", Arrays.stream(seen, 9, 42).sum() > 10);
        Due.end();
    }

    /** Needs are drawn round another bed than the plant's own, so that there is mostly a way, and a far one. */
    private static int play(int run, Random random) {
        BedBook x = new BedBook();
        int beds = 2 + random.nextInt(4);
        int[][] bed = new int[beds][];
        for (int b = 0; b < beds; b++) {
            bed[b] = new int[] {random.nextInt(10), random.nextInt(10), 1 + random.nextInt(8)};
            x.bed(bed[b][0], bed[b][1], bed[b][2]);
        }
        int[] own = new int[40];
        int[][] needs = new int[40][4];
        int[] goals = new int[beds];
        for (int p = 0; p < 40; p++) {
            x.wild(1, 1);
            int b = random.nextInt(beds);
            int goal = random.nextInt(beds);
            boolean hasGoal = ++goals[goal] <= bed[goal][2] || random.nextInt(30) == 0;
            own[p] = hasGoal && x.lay(p, b) ? b : -1;
            needs[p][0] = random.nextInt(bed[goal][0] + 1);
            needs[p][1] = bed[goal][0] + random.nextInt(10 - bed[goal][0]);
            needs[p][2] = random.nextInt(bed[goal][1] + 1);
            needs[p][3] = bed[goal][1] + random.nextInt(10 - bed[goal][1]);
            x.needs(p, needs[p][0], needs[p][1], needs[p][2], needs[p][3]);
        }
        int due = fewest(bed, own, needs);
        Due.is("moves() of run " + run, x.moves(), due);
        Due.is("moves() of run " + run + " once more", x.moves(), due);
        return due;
    }

    private static int fewest(int[][] bed, int[] own, int[][] needs) {
        int[] step = new int[bed.length + 1];
        step[0] = 1;
        for (int b = 0; b < bed.length; b++) {
            step[b + 1] = step[b] * (bed[b][2] + 1);
        }
        int[] best = new int[step[bed.length]];
        Arrays.fill(best, FAR);
        best[0] = 0;
        for (int p = 0; p < own.length; p++) {
            if (own[p] >= 0) {
                best = withOneMore(bed, step, best, own[p], needs[p]);
            }
        }
        int least = Arrays.stream(best).min().getAsInt();
        return least >= FAR ? -1 : least;
    }

    private static int[] withOneMore(int[][] bed, int[] step, int[] best, int own, int[] n) {
        int[] then = new int[best.length];
        Arrays.fill(then, FAR);
        for (int b = 0; b < bed.length; b++) {
            boolean suits = bed[b][0] >= n[0] && bed[b][0] <= n[1] && bed[b][1] >= n[2] && bed[b][1] <= n[3];
            for (int f = 0; suits && f < best.length; f++) {
                int there = f / step[b] % (bed[b][2] + 1);
                if (there < bed[b][2]) {
                    then[f + step[b]] = Math.min(then[f + step[b]], best[f] + (b == own ? 0 : 1));
                }
            }
        }
        return then;
    }
}
