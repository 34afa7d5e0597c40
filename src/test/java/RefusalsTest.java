import java.util.ArrayList;
import java.util.List;
import java.util.function.ToLongFunction;

/** "A refused call changes nothing", and "Answers of several refusals are the first one as they are told at the call". */
public final class RefusalsTest {
    private static final int FAR = -1000000000;
    private static final int LEAST = Integer.MIN_VALUE;
    private static final int MOST = Integer.MAX_VALUE;
    private static final List<String> NAMES = new ArrayList<>();
    private static final List<ToLongFunction<TwoFlags>> CALLS = new ArrayList<>();
    private static final List<Integer> WANTED = new ArrayList<>();

    public static void main(String[] args) {
        ofTheWood();
        ofSeconds();
        ofGamesInMind();
        ofNumbersAndWays();
        ofShelves();
        long[] was = told(full());
        for (int i = 0; i < CALLS.size(); i++) {
            TwoFlags x = full();
            Due.due(NAMES.get(i), CALLS.get(i).applyAsLong(x), WANTED.get(i));
            long[] is = told(x);
            for (int k = 0; k < was.length; k++) {
                Due.due("behind " + NAMES.get(i) + ", " + k, is[k], was[k]);
            }
        }
        refusedAtTheEnd();
        Due.end();
    }

    private static void add(String name, int want, ToLongFunction<TwoFlags> call) {
        NAMES.add(name);
        CALLS.add(call);
        WANTED.add(want);
    }

    /**
     * Four players in the midst of a game, 0 held, all rules and both plans of a side told, an image of an earlier second;
     * shelves: 0 nothing, 1 a role, 2 bytes, 3 shorts, 4 ints, 5 nothing, 6 bytes that are no text, 7 a text with a fault.
     */
    private static TwoFlags full() {
        TwoFlags x = Due.wood("g1d4;g2h2;g3i1;e0;t100;f1;l1;h300;p000e3;p110h3;p060a6;p040a0;c0151;c0232;");
        x.go(1);
        x.image();
        x.go(3);
        x.keep(7, 0, 0, 0);
        x.keep(1, 1, 6, 4);
        Due.fill(x, 2, 0, 1, 2, 3);
        Due.fill(x, 3, 1, 4, 5);
        Due.fill(x, 4, 2, 6, 7, 8, 9);
        Due.fill(x, 6, 0, 'e', '1', '!');
        Due.fill(x, 7, 0, 'e', '1', ';', 'r', '2', ';');
        return x;
    }

    /** All that can be asked of the object and of what its image is, in no more calls than it has left. */
    private static long[] told(TwoFlags x) {
        long[] told = new long[250];
        int at = 0;
        for (int cell = 0; cell < 84; cell++) {
            told[at++] = x.ground(cell);
        }
        for (int d = 0; d < 8; d++) {
            told[at++] = x.counts(d);
            for (int i = 0; i < 5; i++) {
                told[at++] = Due.thrownByElement(x, d, i) == 0 ? x.element(d, i) : 1000;
            }
        }
        for (int now = 0; now < 2; now++) {
            for (int i = 0; i < 6; i++) {
                told[at++] = x.rule(i);
                told[at++] = x.count(i);
                told[at++] = x.state(i);
            }
            for (int i = 0; i < 36; i++) {
                told[at++] = x.player(i / 9, i % 9);
            }
            told[at++] = x.flag(0, 0) + 100 * x.flag(0, 1);
            told[at++] = x.flag(1, 0) + 100 * x.flag(1, 1);
            told[at++] = x.seed(5);
            x.restore();
        }
        return told;
    }

    private static void ofTheWood() {
        add("full: a text with a statement that can't be", -2003, x -> x.text(7));
        add("full: a text with a byte that can't stand", -1002, x -> x.text(6));
        add("text of no shelf", -1, x -> x.text(8));
        add("text of nothing", -11, x -> x.text(0));
        add("text of a role", -12, x -> x.text(1));
        add("text of shorts", -12, x -> x.text(3));
        add("text of ints", -12, x -> x.text(4));
        add("ground", -1, x -> x.ground(84));
        add("rule", -1, x -> x.rule(6));
        int[] noPlayers = {-1, 4, 9, 10, LEAST, MOST};
        for (int player : noPlayers) {
            add("player " + player, -1, x -> x.player(player, 0));
            add("role of player " + player, -1, x -> x.role(player, 1));
            add("role of player " + player + ", nothing", -1, x -> x.role(player, 0));
            add("player " + player + " sees", -1, x -> x.sees(player, 0));
            add("judge of player " + player, -1, x -> x.judge(player, 2));
            add("judge of player " + player + ", nothing", -1, x -> x.judge(player, 0));
            add("believed of player " + player, -1, x -> x.believed(player));
        }
        int[] noWhats = {-1, 9, LEAST, MOST};
        for (int what : noWhats) {
            add("player, what " + what, -1, x -> x.player(0, what));
        }
        add("its goal: held", -4, x -> x.player(0, 8));
        add("role of nothing", -11, x -> x.role(0, 0));
        add("role of bytes", -12, x -> x.role(0, 2));
        add("role of shorts", -12, x -> x.role(1, 3));
        add("role of ints", -12, x -> x.role(1, 4));
        int[] noCells = {-1, 84, LEAST, MOST};
        for (int cell : noCells) {
            add("sees cell " + cell, -1, x -> x.sees(1, cell));
            add("held, sees cell " + cell, -1, x -> x.sees(0, cell));
        }
        add("held, it sees nothing", -3, x -> x.sees(0, 83));
        int[] none = {-1, 2, LEAST, MOST};
        for (int n : none) {
            add("flag of side " + n, -1, x -> x.flag(n, 0));
            add("flag, what " + n, -1, x -> x.flag(0, n));
        }
        add("near", -1, x -> x.near(0, 84));
    }

    private static void ofSeconds() {
        int[] none = {0, 101, -1, LEAST, MOST};
        for (int n : none) {
            add("go " + n, -1, x -> x.go(n));
        }
        add("state", -1, x -> x.state(6));
        add("judge by nothing", -11, x -> x.judge(0, 0));
        add("judge by a role", -12, x -> x.judge(0, 1));
        add("judge by no shelf", -1, x -> x.judge(0, 8));
    }

    private static void ofGamesInMind() {
        add("game", -1, x -> x.game(1, 4));
        add("against", FAR - 1, x -> x.against(11, 1));
        add("table, no shelf", -1, x -> x.table(2, 8, 0, 1));
        add("table, no figure", -1, x -> x.table(2, 2, 10, 1));
        add("table, nothing", -11, x -> x.table(2, 0, 0, 1));
        add("table, a role", -12, x -> x.table(1, 2, 0, 1));
        add("table, shorts", -12, x -> x.table(2, 3, 0, 1));
        add("table, no kinds", -13, x -> x.table(2, 6, 0, 1));
        add("best plan, no player", FAR - 1, x -> x.bestPlan(4, 0, 1, 1, 0));
        add("best plan, 6 games", FAR - 1, x -> x.bestPlan(0, 0, 6, 1, 0));
        add("fair", -1, x -> x.fair(11, 1));
        add("smaller, no player", FAR - 1, x -> x.smaller(4, 1, 1));
        add("smaller, 11 games", FAR - 1, x -> x.smaller(0, 11, 1));
        add("hour", -1, x -> x.hour(11, 1));
    }

    private static void ofNumbersAndWays() {
        add("gain", FAR - 1, x -> x.gain(3, 4, 0));
        add("rests", -1, x -> x.rests(3, -2));
        add("rests, none", -4, x -> x.rests(3, 9));
        add("sure", FAR - 1, x -> x.sure(3, 2));
        add("guards", -1, x -> x.guards(0, 7, 0));
        add("guards, none", -4, x -> x.guards(0, 0, 0));
        add("way in", -1, x -> x.wayIn(84, 0, 0, 0));
        add("way in, none", -4, x -> x.wayIn(0, Due.at("i1"), 0, 0));
        add("may be", -1, x -> x.mayBe(0, 21));
        add("may be in thicket", -1, x -> x.mayBe(Due.at("i1"), 0));
        add("worth", FAR - 1, x -> x.worth(2));
        add("believed: held", -3, x -> x.believed(0));
    }

    private static void ofShelves() {
        add("count", -1, x -> x.count(6));
        for (int d = 0; d < 8; d++) {
            int shelf = d;
            add("keep, no what, on " + d, -1, x -> x.keep(shelf, 2, 0, 0));
            add("keep, no kind, on " + d, -1, x -> x.keep(shelf, 1, 8, 0));
            add("keep, no figure, on " + d, -1, x -> x.keep(shelf, 1, 0, 10));
            add("row, no sort, on " + d, -1, x -> x.row(shelf, 3, 1));
            add("row, too long, on " + d, -1, x -> x.row(shelf, 0, 101));
            add("row, below 0, on " + d, -14, x -> x.row(shelf, 0, -1));
        }
        add("keep, no shelf", -1, x -> x.keep(8, 0, 0, 0));
        add("row, no shelf", -1, x -> x.row(-1, 0, 0));
        add("put, no shelf", -1, x -> x.put(8, 0, 1));
        add("put, nothing", -11, x -> x.put(0, 0, 1));
        add("put, a role", -12, x -> x.put(1, 0, 1));
        add("put, no place", -13, x -> x.put(2, 3, 1));
        add("put, no place", -13, x -> x.put(4, -1, 1));
        add("element, no shelf", 1, x -> Due.thrownByElement(x, 8, 0));
        add("element, nothing", 2, x -> Due.thrownByElement(x, 0, 0));
        add("element, a role", 2, x -> Due.thrownByElement(x, 1, 0));
        add("element, no place", 2, x -> Due.thrownByElement(x, 2, 3));
        add("copy, no shelf", -1, x -> x.copy(2, 0, 8, 0, 1));
        add("copy, nothing", -11, x -> x.copy(2, 0, 0, 0, 1));
        add("copy, nothing", -11, x -> x.copy(0, 0, 2, 0, 1));
        add("copy, a role", -12, x -> x.copy(2, 0, 1, 0, 1));
        add("copy, other sorts", -12, x -> x.copy(2, 0, 3, 0, 1));
        add("copy, no place to take from", -13, x -> x.copy(2, 1, 6, 0, 3));
        add("copy, no place to come to", -13, x -> x.copy(6, 0, 2, 1, 3));
        add("copy, below 0", -13, x -> x.copy(2, 0, 6, 0, -1));
        add("counts", -12, x -> x.counts(2));
        add("counts", -11, x -> x.counts(0));
        add("toss", -12, x -> x.toss(2));
        add("toss", -11, x -> x.toss(0));
    }

    /** "-3: no PLAYERS, it ENDED", "-3: there is none", "-15". */
    private static void refusedAtTheEnd() {
        TwoFlags x = Due.wood("p000e3;");
        x.go(100);
        for (int i = 0; i < 3; i++) {
            Due.due("ended", x.go(100), -3);
            Due.due("the second stays", x.state(0), 11);
            Due.due("its cell stays", x.player(0, 4), Due.at("f3"));
            Due.due("no image", x.restore(), -3);
        }
        Due.due("the second stays", x.state(0), 11);
        x.keep(0, 1, 3, 5);
        Due.due("none thrown", x.toss(0), -15);
        Due.due("the role stays", x.counts(0), 10);
        Due.due("the role stays", x.role(0, 0), 3);
        Due.due("its figure stays", x.player(0, 2), 5);
    }
}
