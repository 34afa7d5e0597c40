/** Promises 22 to 24: how many at home and over, as a game of numbers. */
public final class NumbersTest {
    public static void main(String[] args) {
        TwoFlags x = new TwoFlags();
        gains(x);
        rests(x);
        sure(x);
        Due.end();
    }

    private static void gains(TwoFlags x) {
        Due.due("22 (3, 1, 1)", x.gain(3, 1, 1), 0);
        // 6 go over, 0 at home there: 6; back: 6 less 0 are at home there, 0 go over
        Due.due("22 (6, 0, 0)", x.gain(6, 0, 0), 0);
        Due.due("22 (6, 1, 0)", x.gain(6, 1, 0), 5 - 4);
        Due.due("22 (6, 0, 1)", x.gain(6, 0, 1), 4 - 5);
        Due.due("22 (6, 3, 0)", x.gain(6, 3, 0), 3);
        Due.due("22 (6, 0, 3)", x.gain(6, 0, 3), -3);
        Due.due("22 (6, 2, 1)", x.gain(6, 2, 1), 2 - 1);
        Due.due("22 (1, 1, 1)", x.gain(1, 1, 1), 0);
        int[][] wrong = {{0, 0, 0}, {7, 0, 0}, {-1, 0, 0}, {3, -1, 0}, {3, 4, 0}, {3, 0, -1}, {3, 0, 4}};
        for (int[] w : wrong) {
            Due.due("22 refused", x.gain(w[0], w[1], w[2]), -1000000001);
        }
    }

    private static void rests(TwoFlags x) {
        Due.due("23 n 0", x.rests(0, -1), -1);
        Due.due("23 n 7", x.rests(7, -1), -1);
        Due.due("23 k -2", x.rests(3, -2), -1);
        Due.due("23 n 1", x.rests(1, -1), 4);
        int[] one = {0, 1, 10, 11};
        for (int k = 0; k < 4; k++) {
            Due.due("23 n 1, " + k, x.rests(1, k), one[k]);
        }
        Due.due("23 none", x.rests(1, 4), -4);
        Due.due("23 none", x.rests(1, Integer.MAX_VALUE), -4);
        // by the words alone: each pair, each other number of either side
        for (int n = 1; n <= 6; n++) {
            int found = 0;
            for (int pair = 0; pair < (n + 1) * (n + 1); pair++) {
                int i = pair / (n + 1);
                int j = pair % (n + 1);
                boolean rests = true;
                for (int k = 0; k <= n; k++) {
                    rests &= gain(n, k, j) <= gain(n, i, j) && -gain(n, i, k) <= -gain(n, i, j);
                }
                if (rests) {
                    Due.due("23 n " + n + ", " + found, x.rests(n, found), 10 * i + j);
                    found++;
                }
            }
            Due.due("23 n " + n, x.rests(n, -1), found);
            Due.due("23 n " + n + ", none more", x.rests(n, found), -4);
        }
    }

    private static int gain(int n, int i, int j) {
        return Math.max(0, n - i - 2 * j) - Math.max(0, n - j - 2 * i);
    }

    private static void sure(TwoFlags x) {
        Due.due("24 n 0", x.sure(0, 0), -1000000001);
        Due.due("24 n 7", x.sure(7, 0), -1000000001);
        Due.due("24 what 2", x.sure(3, 2), -1000000001);
        Due.due("24 what -1", x.sure(3, -1), -1000000001);
        // n 3: keeping 0, the other by keeping 1 makes it 1 - 2; keeping 1 it is never below 0
        Due.due("24 n 3", x.sure(3, 0), 0);
        Due.due("24 n 3", x.sure(3, 1), 1);
        for (int n = 1; n <= 6; n++) {
            int best = Integer.MIN_VALUE;
            int bestI = 0;
            for (int i = 0; i <= n; i++) {
                int least = Integer.MAX_VALUE;
                for (int j = 0; j <= n; j++) {
                    least = Math.min(least, gain(n, i, j));
                }
                if (least > best) {
                    best = least;
                    bestI = i;
                }
            }
            Due.due("24 n " + n, x.sure(n, 0), best);
            Due.due("24 n " + n + ", i", x.sure(n, 1), bestI);
        }
    }
}
