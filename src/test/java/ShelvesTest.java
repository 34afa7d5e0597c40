/** Promises 33 to 39: what is kept on shelves, rows and their elements, what roles count and throw. */
public final class ShelvesTest {
    public static void main(String[] args) {
        keeps();
        rows();
        puts();
        elements();
        copies();
        counts();
        tosses();
        Due.end();
    }

    private static void keeps() {
        TwoFlags x = new TwoFlags();
        Due.due("33 no shelf", x.keep(-1, 0, 0, 0), -1);
        Due.due("33 no shelf", x.keep(8, 0, 0, 0), -1);
        Due.due("33 no what", x.keep(0, 2, 0, 0), -1);
        Due.due("33 no what", x.keep(0, -1, 0, 0), -1);
        Due.due("33 no kind", x.keep(0, 1, 8, 0), -1);
        Due.due("33 no kind", x.keep(0, 1, -1, 0), -1);
        Due.due("33 no figure", x.keep(0, 1, 0, 10), -1);
        Due.due("33 no figure", x.keep(0, 1, 0, -1), -1);
        Due.due("33 nothing came", x.counts(0), -11);
        Due.due("33 a role", x.keep(0, 1, 7, 9), 0);
        Due.due("33 it is there", x.counts(0), 5);
        Due.due("33 refused", x.keep(0, 1, 8, 0), -1);
        Due.due("33 it is there still", x.counts(0), 5);
        Due.due("33 nothing, the others do not matter", x.keep(0, 0, 99, -99), 0);
        Due.due("33 nothing is there", x.counts(0), -11);
        x.row(7, 0, 3);
        Due.due("33 a role in a row's place", x.keep(7, 1, 1, 1), 0);
        Due.due("33 it is no row", x.put(7, 0, 0), -12);
    }

    private static void rows() {
        TwoFlags x = new TwoFlags();
        Due.due("34 no shelf", x.row(-1, 0, 0), -1);
        Due.due("34 no shelf", x.row(8, 0, -1), -1);
        Due.due("34 no sort", x.row(0, 3, 0), -1);
        Due.due("34 no sort", x.row(0, -1, -1), -1);
        Due.due("34 too long", x.row(0, 0, 101), -1);
        Due.due("34 below 0", x.row(0, 0, -1), -14);
        Due.due("34 nothing came", x.put(0, 0, 0), -11);
        Due.due("34 the longest", x.row(0, 2, 100), 0);
        Due.due("34 the last place", x.put(0, 99, 5), 0);
        Due.due("34 no place behind it", x.put(0, 100, 5), -13);
        Due.due("34 elements are 0 at first", x.element(0, 98), 0);
        Due.due("34 refused", x.row(0, 0, -1), -14);
        Due.due("34 it is there still", x.element(0, 99), 5);
        Due.due("34 anew", x.row(0, 2, 100), 0);
        Due.due("34 0 again", x.element(0, 99), 0);
        x.put(0, 0, 5);
        Due.due("34 anew, of another sort", x.row(0, 1, 1), 0);
        Due.due("34 the first one is 0 again", x.element(0, 0), 0);
        Due.due("34 none", x.row(0, 1, 0), 0);
        Due.due("34 no place in it", x.put(0, 0, 0), -13);
    }

    private static void puts() {
        TwoFlags x = new TwoFlags();
        Due.due("35 no shelf", x.put(-1, 0, 0), -1);
        Due.due("35 no shelf", x.put(8, 0, 0), -1);
        Due.due("35 nothing", x.put(0, 0, 0), -11);
        x.keep(0, 1, 0, 0);
        Due.due("35 a role", x.put(0, 0, 0), -12);
        int[] values = {127, 128, 255, 256, -129, 32767, 32768, 65535, -32769, Integer.MIN_VALUE, Integer.MAX_VALUE};
        for (int sort = 0; sort < 3; sort++) {
            x.row(sort, sort, 3);
            Due.due("35 no place", x.put(sort, -1, 0), -13);
            Due.due("35 no place", x.put(sort, 3, 0), -13);
            for (int v : values) {
                Due.due("35 put", x.put(sort, 2, v), 0);
                long want = sort == 0 ? (byte) v : sort == 1 ? (short) v : v;
                Due.due("36 " + v + " in sort " + sort, x.element(sort, 2), want);
            }
            Due.due("36 the others stay", x.element(sort, 1), 0);
        }
    }

    private static void elements() {
        TwoFlags x = new TwoFlags();
        Due.due("36 no shelf", Due.thrownByElement(x, -1, 0), 1);
        Due.due("36 no shelf", Due.thrownByElement(x, 8, 0), 1);
        Due.due("36 nothing", Due.thrownByElement(x, 0, 0), 2);
        x.keep(0, 1, 0, 0);
        Due.due("36 a role", Due.thrownByElement(x, 0, 0), 2);
        x.row(0, 0, 2);
        Due.due("36 no place", Due.thrownByElement(x, 0, -1), 2);
        Due.due("36 no place", Due.thrownByElement(x, 0, 2), 2);
        Due.due("36 a place", Due.thrownByElement(x, 0, 1), 0);
        Due.due("36 no place", Due.thrownByElement(x, 0, Integer.MAX_VALUE), 2);
    }

    private static void copies() {
        TwoFlags x = new TwoFlags();
        Due.due("37 no shelf", x.copy(-1, 0, 0, 0, 0), -1);
        Due.due("37 no shelf", x.copy(0, 0, 8, 0, 0), -1);
        Due.due("37 nothing", x.copy(0, 0, 1, 0, 0), -11);
        x.keep(0, 1, 0, 0);
        Due.due("37 a role and nothing", x.copy(0, 0, 1, 0, 0), -11);
        Due.due("37 nothing and a role", x.copy(1, 0, 0, 0, 0), -11);
        Due.fill(x, 1, 0, 1, 2, 3, 4, 5);
        Due.due("37 a role", x.copy(0, 0, 1, 0, 0), -12);
        Due.due("37 a role", x.copy(1, 0, 0, 0, 0), -12);
        x.row(2, 1, 5);
        Due.due("37 another sort", x.copy(1, 0, 2, 0, 9), -12);
        x.row(2, 0, 3);
        int[][] wrong = {{0, 0, -1}, {-1, 0, 1}, {0, -1, 1}, {5, 0, 1}, {0, 3, 1}, {3, 0, 3}, {0, 1, 3}, {6, 0, 0},
            {0, 4, 0}, {Integer.MAX_VALUE, 0, 1}, {1, 0, Integer.MAX_VALUE}, {0, 1, Integer.MAX_VALUE}};
        for (int[] w : wrong) {
            Due.due("37 no place", x.copy(1, w[0], 2, w[1], w[2]), -13);
        }
        Due.due("37 none at the ends", x.copy(1, 5, 2, 3, 0), 0);
        Due.due("37 three", x.copy(1, 2, 2, 0, 3), 3);
        for (int i = 0; i < 3; i++) {
            Due.due("37 came", x.element(2, i), 3 + i);
            Due.due("37 stays", x.element(1, i), 1 + i);
        }
        Due.due("37 within one row, upward", x.copy(1, 0, 1, 1, 4), 4);
        int[] up = {1, 1, 2, 3, 4};
        for (int i = 0; i < 5; i++) {
            Due.due("37 upward", x.element(1, i), up[i]);
        }
        Due.due("37 within one row, downward", x.copy(1, 2, 1, 0, 3), 3);
        int[] down = {2, 3, 4, 3, 4};
        for (int i = 0; i < 5; i++) {
            Due.due("37 downward", x.element(1, i), down[i]);
        }
    }

    private static void counts() {
        TwoFlags x = new TwoFlags();
        Due.due("38 no shelf", x.counts(-1), -1);
        Due.due("38 no shelf", x.counts(8), -1);
        Due.due("38 nothing", x.counts(0), -11);
        x.row(0, 0, 0);
        Due.due("38 a row", x.counts(0), -12);
        int[][] want = {{1, 1, 1}, {1, 6, 10}, {5, 5, 5}, {10, 10, 10}, {8, 8, 8}, {0, 5, 9}, {8, 13, 17}, {0, 3, 5}};
        int[] figures = {0, 5, 9};
        for (int kind = 0; kind < 8; kind++) {
            for (int i = 0; i < 3; i++) {
                x.keep(0, 1, kind, figures[i]);
                Due.due("38 kind " + kind + ", figure " + figures[i], x.counts(0), want[kind][i]);
            }
        }
    }

    private static void tosses() {
        TwoFlags x = new TwoFlags();
        Due.due("39 no shelf", x.toss(-1), -1);
        Due.due("39 no shelf", x.toss(8), -1);
        Due.due("39 nothing", x.toss(0), -11);
        x.row(0, 0, 0);
        Due.due("39 a row", x.toss(0), -12);
        int[] want = {4, 4, 4, -15, 4, 104, 212, 4};
        for (int kind = 0; kind < 8; kind++) {
            x.keep(0, 1, kind, 4);
            Due.due("39 kind " + kind, x.toss(0), want[kind]);
            x.keep(0, 1, kind, 0);
            Due.due("39 kind " + kind + ", figure 0", x.toss(0), -15);
        }
        x.keep(0, 1, 6, 1);
        Due.due("39 the role stays", x.toss(0), 209);
        Due.due("39 the role stays", x.toss(0), 209);
    }
}
