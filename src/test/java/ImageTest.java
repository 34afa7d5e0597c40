/** Promises 30 to 32: the image, and what is told of players, plans and ground. */
public final class ImageTest {
    public static void main(String[] args) {
        none();
        restoresAll();
        shelvesStay();
        isTakenAnew();
        counts();
        Due.end();
    }

    private static void none() {
        TwoFlags x = new TwoFlags();
        Due.due("31 none", x.restore(), -3);
        Due.due("30 of a new object", x.image(), 0);
        Due.due("31 one", x.restore(), 0);
    }

    private static void restoresAll() {
        TwoFlags x = Due.wood("t70;e1;g2f3;p000e3;p110h3;p040e1;p130h4;c0163;");
        x.go(4);
        int[] was = told(x);
        Due.due("30 the second", x.image(), 4);
        x.go(9);
        x.keep(0, 1, 7, 7);
        x.role(0, 0);
        Due.read(x, "t0;f1;l1;h66;e0;c1163;");
        x.anew();
        Due.read(x, "g3f5;g0f3;r0;p000f4;");
        x.seed(99);
        Due.due("31 the second", x.restore(), 4);
        same("31 restored", was, told(x));
        // it goes on as it would have, and may be restored again
        x.go(9);
        int[] later = told(x);
        Due.due("31 again", x.restore(), 4);
        same("31 restored again", was, told(x));
        x.go(9);
        same("31 it goes on so", later, told(x));
    }

    private static void shelvesStay() {
        TwoFlags x = new TwoFlags();
        x.keep(0, 1, 1, 1);
        x.image();
        x.keep(0, 1, 1, 2);
        x.row(1, 0, 3);
        x.restore();
        Due.due("31 a role stays as it is", x.counts(0), 3);
        Due.due("31 a row stays", x.put(1, 2, 1), 0);
    }

    private static void isTakenAnew() {
        TwoFlags x = Due.wood("p000e3;");
        x.image();
        x.go(3);
        Due.due("30 anew", x.image(), 3);
        x.go(3);
        Due.due("31 the later one", x.restore(), 3);
        Due.due("31 the later one", x.player(0, 4), 43);
    }

    private static void counts() {
        TwoFlags x = Due.wood("g1b0d0;g2b1c1;g3b2;p100g0;p000f0;p100g0;c0110;c1110;c1110;");
        int[] want = {3, 1, 3, 3, 2, 1};
        for (int what = 0; what < 6; what++) {
            Due.due("32 count " + what, x.count(what), want[what]);
        }
        Due.due("32 others", x.count(6), -1);
        Due.due("32 others", x.count(-1), -1);
        Due.due("32 others", x.count(Integer.MIN_VALUE), -1);
    }

    private static int[] told(TwoFlags x) {
        int[] told = new int[160];
        int n = 0;
        for (int what = 0; what < 6; what++) {
            told[n++] = x.state(what);
            told[n++] = x.rule(what);
            told[n++] = x.count(what);
        }
        for (int i = 0; i < 45; i++) {
            told[n++] = x.player(i / 9, i % 9);
        }
        for (int i = 0; i < 4; i++) {
            told[n++] = x.flag(i / 2, i % 2);
        }
        for (int row = 3; row < 6; row++) {
            told[n++] = x.ground(Due.cell(5, row));
        }
        int z = x.seed(0);
        x.seed(z);
        told[n++] = z;
        return told;
    }

    private static void same(String what, int[] was, int[] is) {
        for (int i = 0; i < was.length; i++) {
            Due.due(what + " (" + i + ")", is[i], was[i]);
        }
    }
}
