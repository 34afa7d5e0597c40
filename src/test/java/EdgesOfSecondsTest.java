/** The edges that the document's part 3 and promises 10 to 14 name: seconds, touches by draws, the end, cells judged. */
public final class EdgesOfSecondsTest {
    public static void main(String[] args) {
        howManySeconds();
        endsAtTheHour();
        wonAtTheHour();
        hourToldLater();
        whoIsFreeIsAskedAtItsTurn();
        brookAheadOfStepAndFlag();
        inBrookItTouchesAndIsTouched();
        aFlagThatNobodyCarries();
        freedAreAsLetsTells();
        freeingByAnyKindWithoutAStep();
        reachAtTheTurnOfWhoIsOver();
        reachAtTheTurnOfWhoIsAtHome();
        touchedWhereverTheOtherIs();
        halves();
        drawsBelowTouch();
        noMoreTouchItThen();
        touchesByNumbers();
        whoIsHeldTouchesNobody();
        heldOutOfBrookAtTheGaol();
        flagsFall();
        winsOnItsOwnHalf();
        hadItFirst();
        draws();
        anewStaysAndGoes();
        judged();
        tenPlayersAtOnce();
        Due.end();
    }

    private static int next(int z) {
        return (int) (z * 1103515245L + 12345L);
    }

    private static int drawn(int z) {
        return (int) ((z & 0x7fffffffL) >> 16) % 100;
    }

    /** A seed whose first draws are below 50, or not, as told. */
    private static int seedOf(boolean... below) {
        for (int seed = 1;; seed++) {
            int z = seed;
            int well = 0;
            for (boolean b : below) {
                z = next(z);
                well += (drawn(z) < 50) == b ? 1 : 0;
            }
            if (well == below.length) {
                return seed;
            }
        }
    }

    private static int z(TwoFlags x) {
        int z = x.seed(0);
        x.seed(z);
        return z;
    }

    private static void where(String what, TwoFlags x, int player, String cell) {
        Due.due(what + ": cell of " + player, x.player(player, 4), Due.at(cell));
    }

    private static void states(String what, TwoFlags x, int... want) {
        for (int i = 0; i < want.length; i++) {
            Due.due(what + ": state " + i, x.state(i), want[i]);
        }
    }

    /** "n SECONDS (1 .. 100), or till it ENDS: the SECOND. -1; -3: no PLAYERS, it ENDED". */
    private static void howManySeconds() {
        int[] none = {0, -1, 101, Integer.MIN_VALUE, Integer.MAX_VALUE};
        TwoFlags x = new TwoFlags();
        for (int n : none) {
            Due.due("go " + n + " with nobody: -1 is told first", x.go(n), -1);
        }
        Due.due("nobody", x.go(1), -3);
        Due.due("nobody", x.go(100), -3);
        Due.due("no second went by", x.state(0), 0);
        x = Due.wood("h600;p010f3;");
        for (int n : none) {
            Due.due("go " + n, x.go(n), -1);
            Due.due("no second went by", x.state(0), 0);
        }
        Due.due("the least", x.go(1), 1);
        Due.due("the most", x.go(100), 101);
        Due.due("one less", x.go(99), 200);
        for (int i = 3; i <= 6; i++) {
            Due.due("on", x.go(100), 100 * i);
        }
        Due.due("ended", x.go(1), -3);
        Due.due("ended: -1 is told first", x.go(0), -1);
        Due.due("the last second", x.state(0), 600);
        int[] no = {-1, 6, Integer.MIN_VALUE, Integer.MAX_VALUE};
        for (int what : no) {
            Due.due("no state " + what, x.state(what), -1);
        }
    }

    /** "THE GAME ENDS .. at the HOUR: then SECONDS change nothing". */
    private static void endsAtTheHour() {
        int[] hours = {10, 11, 99, 100, 101, 200, 600};
        for (int hour : hours) {
            TwoFlags x = Due.wood("h" + hour + ";p010f3;");
            for (int left = hour - 1; left > 0; left -= 100) {
                x.go(Math.min(left, 100));
            }
            states("a second ahead of " + hour, x, hour - 1, 2, 0, 0, 0, -4);
            Due.due("at the hour", x.go(100), hour);
            states("at " + hour, x, hour, 2, 1, 0, 0, -4);
            Due.due("ended", x.go(1), -3);
            states("behind " + hour, x, hour, 2, 1, 0, 0, -4);
        }
        // 200 at first
        TwoFlags x = Due.wood("p010f3;");
        x.go(100);
        Due.due("199", x.go(99), 199);
        Due.due("not ended", x.state(2), 0);
        Due.due("200", x.go(100), 200);
        Due.due("ended", x.state(2), 1);
    }

    /** Who wins in the very SECOND of the HOUR has WON; a second later would be too late. */
    private static void wonAtTheHour() {
        TwoFlags x = Due.wood("h10;p000f3;");
        Due.due("till the hour", x.go(100), 10);
        states("won at the hour", x, 10, 0, 1, 0, 0, 0);
        x = Due.wood("h10;p000e3;");
        Due.due("till the hour", x.go(100), 10);
        states("a second too late", x, 10, 2, 1, 0, 0, 0);
        Due.due("it has the flag still", x.flag(1, 1), 0);
        x = Due.wood("h11;p000e3;");
        Due.due("till it is won", x.go(100), 11);
        states("in time", x, 11, 0, 1, 0, 0, 0);
    }

    /** An HOUR told while it goes: it ends as the SECOND is no less than it. */
    private static void hourToldLater() {
        TwoFlags x = Due.wood("p010f3;");
        x.go(20);
        Due.due("an hour to come", Due.read(x, "h21;"), 1);
        Due.due("not ended", x.state(2), 0);
        Due.due("the hour that is", Due.read(x, "h20;"), 1);
        Due.due("ended", x.state(2), 1);
        Due.due("ended", x.go(1), -3);
        Due.due("an hour that is gone", Due.read(x, "h10;"), 1);
        Due.due("ended", x.go(1), -3);
        Due.due("the second stays", x.state(0), 20);
    }

    /** "who is FREE is asked at its turn". */
    private static void whoIsFreeIsAskedAtItsTurn() {
        // 1 is held at 0's turn, and does not act at its own (else it would be a step away from l6)
        TwoFlags x = Due.wood("t0;p119h3;p000f3;");
        x.go(1);
        where("over", x, 1, "g3");
        Due.read(x, "t100;");
        x.go(1);
        Due.due("held", x.player(1, 5), 1);
        where("held ahead of its turn", x, 1, "l6");
        x.go(1);
        where("who is held stays", x, 1, "l6");
        // 0 frees in second 6; 1, freed at 0's turn, acts at once, as its number is greater
        x = Due.wood("p060f6;p000f3;p110g3;");
        x.go(5);
        where("beside the gaol", x, 0, "k6");
        Due.due("held", x.player(1, 5), 1);
        Due.read(x, "t0;");
        x.go(1);
        where("at the gaol", x, 0, "l6");
        Due.due("freed", x.player(1, 5), 0);
        where("freed, it acts at once", x, 1, "g3");
        // 0, with the less number, is at its home till the next second
        x = Due.wood("p000f3;p060f6;p110g3;");
        x.go(6);
        where("at the gaol", x, 1, "l6");
        Due.due("freed", x.player(0, 5), 0);
        where("freed, its turn was ahead", x, 0, "f3");
    }

    /** "1 who has a SECOND in BROOK left has one less, and neither 2 nor 3 is done"; "(without a STEP, too)". */
    private static void brookAheadOfStepAndFlag() {
        // 0 brings the flag into brook at i3, and 1 comes there too; then 2 comes near, and holds 0 alone
        TwoFlags x = Due.wood("t0;e1;r0;g2d3e3;g2i3;p000f3;p000c3;p110i5;");
        x.go(7);
        where("ahead of the brook, with the flag", x, 0, "j3");
        Due.due("0 has it", x.flag(1, 1), 0);
        where("ahead of the brook", x, 1, "h3");
        x.keep(0, 1, 1, 9);
        x.role(2, 0);
        Due.read(x, "t50;");
        x.seed(seedOf(true, false));
        x.go(1);
        where("2 came near", x, 2, "i4");
        Due.due("0 is held", x.player(0, 5), 1);
        Due.due("1 is not", x.player(1, 5), 0);
        where("1 in brook", x, 1, "i3");
        Due.due("1 has a second left", x.player(1, 7), 1);
        Due.due("the flag lies there", x.flag(1, 0), Due.at("i3"));
        Due.due("nobody has it", x.flag(1, 1), -4);
        Due.read(x, "t0;");
        x.go(1);
        Due.due("1 has none left", x.player(1, 7), 0);
        where("2 is not done", x, 1, "i3");
        Due.due("3 is not done", x.flag(1, 1), -4);
        x.go(1);
        where("no step, as it is at its goal", x, 1, "i3");
        Due.due("it has it without a step", x.flag(1, 1), 1);
        Due.due("no second in brook for staying", x.player(1, 7), 0);
        Due.due("0 had it first", x.state(5), 0);
        // a gaol is never brook; but who waits beside it does not free in that second
        x = Due.wood("g2k6;p000f3;p110g3;p060f6;");
        x.go(5);
        where("in brook beside the gaol", x, 2, "k6");
        x.go(1);
        where("it waits", x, 2, "k6");
        Due.due("held still", x.player(0, 5), 1);
        x.go(1);
        Due.due("freed", x.player(0, 5), 0);
    }

    /** In BROOK 4 is done at its turn all the same. */
    private static void inBrookItTouchesAndIsTouched() {
        // 0 waits at g3, 1 came to it: in the first second both draw, in the other one 0's turn is first
        TwoFlags x = Due.wood("t0;e1;g2g3;p000f3;p110h3;");
        x.go(1);
        where("in brook", x, 0, "g3");
        where("in brook", x, 1, "g3");
        Due.due("a draw at 0's turn, one at 1's", z(x), next(next(1)));
        Due.read(x, "t100;");
        x.go(1);
        Due.due("touched as it waits", x.player(0, 5), 1);
        Due.due("by one draw", z(x), next(next(next(1))));
        Due.due("1 has none left", x.player(1, 7), 0);
        // 0 of side 1 waits at g3, where 1 is, and touches it, ahead of 1's turn
        x = Due.wood("t0;g2g3;p119h3;p000f3;");
        x.go(2);
        where("both in brook", x, 0, "g3");
        where("both in brook", x, 1, "g3");
        Due.due("0 has a second left", x.player(0, 7), 1);
        Due.due("1 has none", x.player(1, 7), 0);
        Due.read(x, "t100;");
        x.go(1);
        Due.due("touched by one who waits", x.player(1, 5), 1);
    }

    /** "At the other SIDE's FLAG that nobody carries: it has it". */
    private static void aFlagThatNobodyCarries() {
        TwoFlags x = Due.wood("p000f3;p000f3;p000e3;");
        x.go(4);
        Due.due("nobody", x.flag(1, 1), -4);
        Due.due("a flag that nobody has", x.player(0, 6), 0);
        x.go(1);
        where("both there", x, 0, "k3");
        where("both there", x, 1, "k3");
        Due.due("0 has it", x.player(0, 6), 1);
        Due.due("1 has not, as 0 carries it", x.player(1, 6), 0);
        Due.due("who carries it", x.flag(1, 1), 0);
        x.go(1);
        Due.due("nor has who comes to its carrier", x.flag(1, 1), 0);
        Due.due("the other flag is nobody's", x.flag(0, 1), -4);
        // both flags are carried at a time
        x = Due.wood("p000f1;p100g5;");
        x.go(7);
        Due.due("0 has side 1's", x.flag(1, 1), 0);
        Due.due("1 has side 0's", x.flag(0, 1), 1);
        Due.due("0 has one", x.player(0, 6), 1);
        Due.due("1 has one", x.player(1, 6), 1);
    }

    /** "one of the held ones is freed, the least number; 1: all"; "they are at their HOME CELLS then". */
    private static void freedAreAsLetsTells() {
        for (int lets = 0; lets <= 1; lets++) {
            TwoFlags x = Due.wood("l" + lets + ";p060f6;p000f3;p000f3;p110g3;p010f1;p100g1;");
            x.go(5);
            states("three are held", x, 5, 2, 0, 3, 3, -4);
            Due.read(x, "t0;");
            x.go(1);
            where("at the gaol", x, 0, "l6");
            Due.due("the least number is freed", x.player(1, 5), 0);
            where("from its home it took a step", x, 1, "g3");
            Due.due("the next one, by lets " + lets, x.player(2, 5), 1 - lets);
            Due.due("one of the other side is not", x.player(5, 5), 1);
            Due.due("held", x.state(3), 2 - lets);
            Due.due("touched so far", x.state(4), 3);
            x.go(1);
            Due.due("a second later none of its own is held", x.player(2, 5), 0);
            where("it stays there as long as one is held", x, 0, lets == 0 ? "l6" : "l5");
            Due.due("one of the other side is held still", x.state(3), 1);
        }
        // who is freed has no second in brook left, though its home is brook
        TwoFlags x = Due.wood("g2f3;p000f3;p110g3;p060f6;");
        x.go(6);
        where("at its home", x, 0, "f3");
        Due.due("no second left", x.player(0, 7), 0);
        Due.due("it has no flag", x.player(0, 6), 0);
    }

    /** At the gaol they are freed by who is there, whatever its KIND, without a STEP too. */
    private static void freeingByAnyKindWithoutAStep() {
        TwoFlags x = Due.wood("p000f3;p000f3;p110g3;p060f6;p110j4;");
        x.go(6);
        where("at the gaol", x, 3, "l6");
        Due.due("one is held still", x.state(3), 1);
        x.keep(0, 1, 2, 9);
        x.role(3, 0);
        Due.due("it creeps, and stays", x.player(3, 8), Due.at("l6"));
        Due.read(x, "t0;");
        x.go(1);
        where("it stayed", x, 3, "l6");
        Due.due("freed by a creeping one", x.state(3), 0);
    }

    /** "as NEAR as REACH or nearer" at the turn of one on the other half; the toucher's turn is ahead. */
    private static void reachAtTheTurnOfWhoIsOver() {
        String[][] table = {{"0", "g3", "1"}, {"0", "g4", "0"}, {"1", "g3", "1"}, {"1", "g4", "1"}, {"1", "g2", "1"},
            {"1", "h3", "1"}, {"1", "h4", "0"}, {"1", "g5", "0"}, {"1", "i3", "0"}};
        for (String[] row : table) {
            TwoFlags x = Due.wood("e" + row[0] + ";p110" + row[1] + ";p000f3;");
            x.go(1);
            String what = "reach " + row[0] + ", one at " + row[1];
            Due.due(what, x.player(1, 5), Integer.parseInt(row[2]));
            Due.due(what + ": touched", x.state(4), Integer.parseInt(row[2]));
            Due.due(what + ": draws", z(x), row[2].equals("1") ? next(1) : 1);
        }
    }

    /** The same at the turn of one on its own half: 0, shut in at h3, has its turn ahead of 1, who goes by. */
    private static void reachAtTheTurnOfWhoIsAtHome() {
        String[][] table = {{"0", "f2", "0"}, {"1", "f2", "1"}, {"1", "f1", "0"}, {"0", "f4", "0"}, {"1", "f4", "1"}};
        for (String[] row : table) {
            TwoFlags x = Due.wood("t0;e" + row[0] + ";g3g3;p140h3;p000" + row[1] + ";");
            x.go(2);
            where("shut in", x, 0, "h3");
            where("above or below it", x, 1, "h" + row[1].charAt(1));
            Due.read(x, "t100;");
            x.go(1);
            Due.due("reach " + row[0] + ", one from " + row[1], x.player(1, 5), Integer.parseInt(row[2]));
        }
        // the same cell
        TwoFlags x = Due.wood("t0;p119h3;p000f3;");
        x.go(1);
        Due.read(x, "t100;");
        x.go(1);
        Due.due("reach 0, the same cell", x.player(1, 5), 1);
    }

    /** "(wherever that one is)": 1 is on 0's half by then, and touches 0, who is on 1's half, shut in. */
    private static void touchedWhereverTheOtherIs() {
        for (int reach = 0; reach <= 1; reach++) {
            TwoFlags x = Due.wood("t0;e" + reach + ";g3h3;p000f3;p100g3;");
            x.go(1);
            where("over", x, 0, "g3");
            where("over", x, 1, "f3");
            Due.read(x, "t100;");
            x.go(1);
            Due.due("reach " + reach + ", 0 is held", x.player(0, 5), reach);
            Due.due("reach " + reach + ", 1 is not", x.player(1, 5), 0);
        }
    }

    /** Who is on its own half is touched by nobody; columns 5 and 6 are the ends of the halves. */
    private static void halves() {
        TwoFlags x = Due.wood("e1;p000e3;p110g3;");
        x.go(1);
        where("on its own half, one beside", x, 0, "f3");
        Due.due("nobody is touched", x.state(4), 0);
        Due.due("no draw", z(x), 1);
        x.go(1);
        Due.due("over", x.player(0, 5), 1);
        Due.due("a draw", z(x), next(1));
        x = Due.wood("e1;p010f3;p100h3;");
        x.go(1);
        where("on its own half, one beside", x, 1, "g3");
        Due.due("nobody is touched", x.state(4), 0);
        Due.due("no draw", z(x), 1);
        x.go(1);
        Due.due("over", x.player(1, 5), 1);
        // those of one side never touch each other
        x = Due.wood("e1;p000f3;p000f3;p000f4;");
        x.go(5);
        Due.due("nobody is touched", x.state(4), 0);
        Due.due("no draw", z(x), 1);
    }

    /** "a DRAW (one each time) below TOUCH: it is HELD": one draw, as 1 goes over at its own turn. */
    private static void drawsBelowTouch() {
        boolean none = false;
        boolean most = false;
        for (int seed = -150; seed < 150; seed++) {
            int draw = drawn(next(seed));
            none |= draw == 0;
            most |= draw == 99;
            for (int touch = draw; touch <= draw + 1; touch++) {
                TwoFlags x = Due.wood("t" + touch + ";p000f3;p130g3;");
                x.seed(seed);
                x.go(1);
                Due.due("touch " + touch + ", draw " + draw, x.player(0, 5), draw < touch ? 1 : 0);
                Due.due("one draw", z(x), next(seed));
            }
        }
        Due.due("the least draw was among them", none ? 1 : 0, 1);
        Due.due("the greatest draw was among them", most ? 1 : 0, 1);
        // none by 0, all by 100, with a draw all the same
        int[] touches = {0, 100};
        for (int touch : touches) {
            TwoFlags x = Due.wood("t" + touch + ";p000f3;p130g3;");
            x.seed(77);
            x.go(1);
            Due.due("held by touch " + touch, x.player(0, 5), touch / 100);
            Due.due("a draw by touch " + touch, z(x), next(77));
        }
    }

    /** "it is HELD (no more touch it then)": at 0's turn 1 and 2, then 1 and 2 at theirs. */
    private static void noMoreTouchItThen() {
        int[] held = new int[5];
        for (int seed = 0; seed < 60; seed++) {
            TwoFlags x = Due.wood("t30;p000f3;p110g3;p110g3;");
            x.seed(seed);
            x.go(1);
            int z = seed;
            int by = 4;
            for (int i = 0; i < 4 && by == 4; i++) {
                z = next(z);
                by = drawn(z) < 30 ? i : 4;
            }
            held[by]++;
            Due.due("held by seed " + seed, x.player(0, 5), by < 4 ? 1 : 0);
            Due.due("touched by seed " + seed, x.state(4), by < 4 ? 1 : 0);
            Due.due("draws by seed " + seed, z(x), z);
        }
        for (int by = 0; by < 5; by++) {
            Due.due("held by the draw " + by + " some time", held[by] > 0 ? 1 : 0, 1);
        }
    }

    /** "it touches likewise each FREE one of the other SIDE by numbers": 0 draws for 1, then for 2, then for 3. */
    private static void touchesByNumbers() {
        for (int seed = 0; seed < 40; seed++) {
            TwoFlags x = Due.wood("t0;p119g3;p000f3;p000f3;p000f3;");
            x.go(1);
            Due.read(x, "t50;");
            x.seed(seed);
            x.go(1);
            int z = seed;
            int many = 0;
            for (int player = 1; player <= 3; player++) {
                z = next(z);
                boolean held = drawn(z) < 50;
                many += held ? 1 : 0;
                Due.due(player + " by seed " + seed, x.player(player, 5), held ? 1 : 0);
                where(player + " by seed " + seed, x, player, held ? "l6" : "h3");
            }
            Due.due("held by seed " + seed, x.state(3), many);
            Due.due("touched by seed " + seed, x.state(4), many);
            Due.due("three draws by seed " + seed, z(x), z);
        }
    }

    /** Only FREE ones touch and are touched: 2 is held at (0, 0), where 0 stands. */
    private static void whoIsHeldTouchesNobody() {
        TwoFlags x = Due.wood("e1;p050a1;p010f3;p100g3;p050b0;");
        x.go(1);
        Due.due("2 is held", x.player(2, 5), 1);
        where("2 there", x, 2, "a0");
        where("0 there", x, 0, "a0");
        Due.due("one draw", z(x), next(1));
        x.go(9);
        Due.due("none more", z(x), next(1));
        Due.due("touched once", x.state(4), 1);
        Due.due("held", x.state(3), 1);
    }

    /** "Who is HELD is at the other SIDE's GAOL (no SECOND in BROOK is left)". */
    private static void heldOutOfBrookAtTheGaol() {
        TwoFlags x = Due.wood("g2g3;p000f3;p110h3;");
        x.go(1);
        Due.due("held in brook", x.player(0, 5), 1);
        Due.due("no second left", x.player(0, 7), 0);
        where("at side 1's gaol", x, 0, "l6");
        where("at side 1's gaol: who held it", x, 1, "g3");
        Due.due("no goal", x.player(0, 8), -4);
        x = Due.wood("g2f3;p100g3;p010e3;");
        x.go(1);
        Due.due("held in brook", x.player(0, 5), 1);
        Due.due("no second left", x.player(0, 7), 0);
        where("at side 0's gaol", x, 0, "a0");
        Due.due("who held it waits in brook", x.player(1, 7), 1);
    }

    /** "0 at first: a FLAG whose carrier is touched lies where that was; 1: it goes back", of either side. */
    private static void flagsFall() {
        for (int side = 0; side < 2; side++) {
            for (int falls = 0; falls <= 1; falls++) {
                String players = side == 0 ? "p000f3;p110h5;p040a0;" : "p100g3;p010e5;p140l0;";
                TwoFlags x = Due.wood("f" + falls + ";" + players);
                String what = "side " + side + ", falls " + falls;
                x.go(6);
                Due.due(what + ": it has it", x.flag(1 - side, 1), 0);
                x.keep(0, 1, 1, 9);
                x.role(1, 0);
                x.go(2);
                String lies = side == 0 ? "h3" : "e3";
                Due.due(what + ": held", x.player(0, 5), 1);
                where(what, x, 0, side == 0 ? "l6" : "a0");
                where(what, x, 1, lies);
                Due.due(what + ": nobody has it", x.flag(1 - side, 1), -4);
                Due.due(what + ": it has none", x.player(0, 6), 0);
                int there = falls == 0 ? Due.at(lies) : side == 0 ? 46 : 37;
                Due.due(what + ": where it is", x.flag(1 - side, 0), there);
                Due.due(what + ": the other flag", x.flag(side, 0), side == 0 ? 37 : 46);
                Due.due(what + ": the others go there", x.player(2, 8), there);
                // those of its own side, who stand there, leave it where it is
                x.keep(0, 1, 1, 0);
                x.role(1, 0);
                x.go(1);
                Due.due(what + ": it stays", x.flag(1 - side, 0), there);
                Due.due(what + ": nobody has it still", x.flag(1 - side, 1), -4);
            }
        }
        // 2 takes it where it lies
        TwoFlags x = Due.wood("p000f3;p110h5;p040a1;");
        x.go(6);
        x.keep(0, 1, 1, 9);
        x.role(1, 0);
        x.go(2);
        Due.due("it lies at h3", x.flag(1, 0), Due.at("h3"));
        Due.read(x, "t0;");
        for (int i = 0; i < 20 && x.flag(1, 1) == -4; i++) {
            x.go(1);
        }
        Due.due("2 has it", x.flag(1, 1), 2);
        where("where it lay", x, 2, "h3");
        Due.due("0 had one first", x.state(5), 0);
        // anew it is back
        x.anew();
        Due.due("back", x.flag(1, 0), 46);
    }

    /** "Who carries a FLAG on its own half has WON for its SIDE: nobody acts any more in that SECOND". */
    private static void winsOnItsOwnHalf() {
        TwoFlags x = Due.wood("t0;p000a0;p000a6;p100l0;");
        Due.read(x, "p000f3;p000b6;");
        x.go(9);
        where("not yet on its own half", x, 3, "g3");
        states("not yet", x, 9, 2, 0);
        int ahead = x.player(0, 4);
        int behind = x.player(4, 4);
        Due.due("won", x.go(5), 10);
        where("its home is far on", x, 3, "f3");
        states("won", x, 10, 0, 1);
        Due.due("ahead of it one acts", x.player(0, 4) == ahead ? 1 : 0, 0);
        Due.due("behind it nobody acts", x.player(4, 4), behind);
        Due.due("it has it still", x.flag(1, 1), 3);
        Due.due("ended", x.go(1), -3);
        Due.due("nothing changed", x.player(4, 4), behind);
        Due.due("nothing changed", x.state(0), 10);
        x = Due.wood("p100g3;");
        x.go(9);
        where("not yet on its own half", x, 0, "f3");
        states("not yet", x, 9, 2, 0);
        Due.due("won", x.go(1), 10);
        where("won", x, 0, "g3");
        states("won", x, 10, 1, 1);
        // on its own half, with no flag, nobody has won; nor on the other half, with one
        x = Due.wood("p000a0;p100l0;");
        x.go(1);
        states("nobody", x, 1, 2, 0);
    }

    /** "who had a FLAG first (-4)". */
    private static void hadItFirst() {
        TwoFlags x = Due.wood("t0;p000e3;p100g3;");
        x.go(4);
        Due.due("nobody", x.state(5), -4);
        x.go(1);
        Due.due("side 1's one", x.state(5), 1);
        x.go(1);
        Due.due("side 0's one has one too", x.flag(1, 1), 0);
        Due.due("first is who was first", x.state(5), 1);
        x = Due.wood("t0;p100g3;p000f3;");
        x.go(5);
        Due.due("in one second by numbers", x.state(5), 0);
        Due.due("both", x.flag(1, 1), 1);
    }

    /** "z (1 at first) becomes z times 1103515245 plus 12345 (an int)", at its ends too. */
    private static void draws() {
        int[] seeds = {1, 0, -1, 2, 12345, -98765, Integer.MAX_VALUE, Integer.MIN_VALUE, 0x40000000, 65535, 65536};
        TwoFlags x = Due.wood("t0;p000f3;p130g3;");
        Due.due("z at first", z(x), 1);
        int was = 1;
        for (int seed : seeds) {
            x.anew();
            Due.due("what it was", x.seed(seed), was);
            x.go(1);
            was = seed * 1103515245 + 12345;
            Due.due("z by " + seed, z(x), was);
        }
    }

    /** "THE GAME begins anew (all at HOME; z stays): how many PLAYERS". */
    private static void anewStaysAndGoes() {
        TwoFlags x = new TwoFlags();
        Due.due("nobody", x.anew(), 0);
        x = Due.wood("g2g3;e1;f1;l1;h30;c0110;p000f3;p110h3;p040f1;p100g5;");
        x.go(30);
        Due.due("ended", x.go(1), -3);
        x.keep(0, 1, 7, 7);
        x.role(0, 0);
        int z = z(x);
        Due.due("how many", x.anew(), 4);
        states("anew", x, 0, 2, 0, 0, 0, -4);
        for (int player = 0; player < 4; player++) {
            Due.due("at home", x.player(player, 4), x.player(player, 3));
            Due.due("free", x.player(player, 5), 0);
            Due.due("no flag", x.player(player, 6), 0);
            Due.due("no second in brook", x.player(player, 7), 0);
        }
        for (int side = 0; side < 2; side++) {
            Due.due("flag", x.flag(side, 0), side == 0 ? 37 : 46);
            Due.due("nobody", x.flag(side, 1), -4);
        }
        Due.due("z stays", z(x), z);
        Due.due("a role stays", x.player(0, 1), 7);
        Due.due("ground stays", x.count(4), 1);
        Due.due("plans stay", x.count(2), 1);
        int[] rules = {1, 1, 100, 1, 1, 30};
        for (int what = 0; what < 6; what++) {
            Due.due("rules stay", x.rule(what), rules[what]);
        }
        Due.due("it goes again", x.go(1), 1);
    }

    /** "the place of the first that isn't so (the least number of the SORT is skipped); -4". */
    private static void judged() {
        TwoFlags x = Due.wood("p000e3;p010d4;");
        int[] leasts = {-128, -32768, Integer.MIN_VALUE};
        for (int sort = 0; sort < 3; sort++) {
            x.row(0, sort, 0);
            Due.due("no cells", x.judge(0, 0), -4);
            Due.fill(x, 0, sort, 40);
            Due.due("behind 1 second, not 0", x.judge(0, 0), 0);
            Due.fill(x, 0, sort, 41);
            Due.due("behind 1 second", x.judge(0, 0), -4);
            for (int least = 0; least < 3; least++) {
                Due.fill(x, 0, sort, leasts[least], 42);
                Due.due("the least of sort " + least + " in sort " + sort, x.judge(0, 0), least == sort ? -4 : 0);
            }
            int[] others = {leasts[sort] + 1, -1, 84, 127};
            for (int other : others) {
                Due.fill(x, 0, sort, 41, other);
                Due.due("no cell " + other, x.judge(0, 0), 1);
            }
        }
        // 100 cells of who stays; the first that isn't so, and the last
        x.row(1, 0, 100);
        x.row(2, 0, 100);
        for (int i = 0; i < 100; i++) {
            x.put(1, i, Due.at("d4"));
        }
        Due.due("100 cells, beyond its end", x.judge(1, 1), -4);
        x.put(1, 99, 0);
        Due.due("the last isn't so", x.judge(1, 1), 99);
        x.put(1, 50, 0);
        Due.due("the first that isn't", x.judge(1, 1), 50);
        x.put(1, 50, -128);
        Due.due("skipped", x.judge(1, 1), 99);
        Due.due("of the other one", x.judge(0, 1), 0);
        states("in mind", x, 0, 2, 0, 0, 0, -4);
        where("in mind", x, 0, "e3");
        Due.due("z stays", z(x), 1);
        judgedAtTheEnd();
    }

    private static void judgedAtTheEnd() {
        // ended: nothing changes any more
        TwoFlags x = Due.wood("h10;p000f0;");
        x.go(9);
        int cell = x.player(0, 4);
        x.image();
        x.go(1);
        int last = x.player(0, 4);
        Due.due("it moved", last == cell ? 1 : 0, 0);
        Due.fill(x, 0, 1, last, last);
        Due.due("behind the hour", x.judge(0, 0), -4);
        x.restore();
        Due.due("a second ahead of the hour", x.judge(0, 0), -4);
        Due.fill(x, 0, 1, last, cell);
        Due.due("one that isn't so", x.judge(0, 0), 1);
        // who is held is at the gaol
        x = Due.wood("p000f3;p110g3;");
        Due.fill(x, 0, 0, 83, 83);
        Due.due("held by then", x.judge(0, 0), -4);
        x.go(1);
        Due.due("held now", x.judge(0, 0), -4);
        Due.due("the row stays", x.element(0, 0) + x.element(0, 1), 166);
        Due.due("touched once", x.state(4), 1);
        // by z as it is: by one seed it is held, by another one not
        x = Due.wood("t50;p000f3;p130g3;");
        x.seed(seedOf(true));
        Due.fill(x, 0, 0, 83);
        Due.due("held by this seed", x.judge(0, 0), -4);
        x.seed(seedOf(false));
        Due.due("not by that one", x.judge(0, 0), 0);
        Due.fill(x, 0, 0, Due.at("g3"));
        Due.due("but there", x.judge(0, 0), -4);
        Due.due("z stays", z(x), seedOf(false));
    }

    /** As many as there can be: held, freed, touched all at once, and each asked of. */
    private static void tenPlayersAtOnce() {
        TwoFlags x = Due.wood("l1;p060f6;" + "p000f3;".repeat(8) + "p110g3;");
        x.go(5);
        states("eight are held", x, 5, 2, 0, 8, 8, -4);
        Due.read(x, "t0;");
        x.go(1);
        states("all are freed at once", x, 6, 2, 0, 0, 8, -4);
        for (int player = 1; player <= 8; player++) {
            where("freed, it acts", x, player, "g3");
        }
        Due.due("the guard goes to the least number", x.believed(1), 1);
        for (int player = 2; player <= 8; player++) {
            Due.due("and to no other", x.believed(player), 0);
        }
        Due.read(x, "t100;");
        x.go(1);
        // each went to h3 at its turn, and the guard, whose turn is the last, came to them
        states("all are touched again", x, 7, 2, 0, 8, 16, -4);
        Due.due("the worth of freeing them", x.worth(0), 8);
        x.row(0, 0, 100);
        Due.due("where the last one is", x.judge(9, 0), 0);
        // of each kind one and more, of both sides
        x = Due.wood("t50;p019f0;p029f1;p039f2;p049f3;p059f4;p169g4;p179g3;p109g2;p119g1;p129g0;");
        Due.due("ten", x.count(0), 10);
        for (int second = 1; second <= 15; second++) {
            Due.due("a second", x.go(1), second);
            int held = 0;
            for (int player = 0; player < 10; player++) {
                held += x.player(player, 5);
                int goal = x.player(player, 8);
                Due.due("a goal, or held", goal == -4 ? x.player(player, 5) : goal >= 0 && goal < 84 ? 1 : 0, 1);
            }
            Due.due("who is held", x.state(3), held);
        }
    }
}
