import java.util.ArrayList;
import java.util.Arrays;
import java.util.Comparator;
import java.util.HashMap;
import java.util.List;
import java.util.Map;
import java.util.TreeMap;
import java.util.function.Predicate;
import java.util.regex.Pattern;
import java.util.stream.IntStream;

/** The document written a second time, by its words, with no heed to speed or room: what the class is held against. */
final class Model {
    static final int FAR = -1000000000;
    static final int[] FLAGS = {37, 46};
    static final int[] GAOLS = {0, 83};

    // ---- kinds, each under another one

    static class Role {
        final int kind;
        final int figure;

        Role(int kind, int figure) {
            this.kind = kind;
            this.figure = figure;
        }

        static Role of(int kind, int figure) {
            switch (kind) {
                case 1:
                    return new Guarding(kind, figure);
                case 2:
                    return new Creeping(kind, figure);
                case 3:
                    return new Drawing(kind, figure);
                case 4:
                    return new Running(kind, figure);
                case 5:
                    return new Gaoling(kind, figure);
                case 6:
                    return new Freeing(kind, figure);
                case 7:
                    return new Ringing(kind, figure);
                default:
                    return new Role(kind, figure);
            }
        }

        int goal(State s, Man m) {
            return s.flagCell(1 - m.side);
        }

        int counts() {
            return 1;
        }

        int failure() {
            return figure == 0 ? -15 : figure;
        }
    }

    static class Guarding extends Role {
        Guarding(int kind, int figure) {
            super(kind, figure);
        }

        int base(Man m) {
            return m.home;
        }

        int rest(Man m) {
            return base(m);
        }

        Man after(State s, Man m) {
            return s.free().stream()
                .filter(o -> o.side != m.side && half(o.cell) == m.side)
                .filter(o -> s.sees(m, o.cell) && apart(o.cell, base(m)) <= figure + 1)
                .min(Comparator.comparingInt((Man o) -> apart(o.cell, m.cell)).thenComparingInt(o -> o.number))
                .orElse(null);
        }

        @Override
        int goal(State s, Man m) {
            Man o = after(s, m);
            return o == null ? rest(m) : o.cell;
        }

        @Override
        int counts() {
            return super.counts() + figure;
        }
    }

    static class Creeping extends Role {
        Creeping(int kind, int figure) {
            super(kind, figure);
        }

        static boolean someone(State s, Man m, int cell, int far) {
            return s.free().stream().anyMatch(o -> o.side != m.side && half(o.cell) == o.side && apart(o.cell, cell) <= far);
        }

        @Override
        int goal(State s, Man m) {
            int goal = super.goal(s, m);
            return someone(s, m, s.step(m, goal), figure / 2) ? m.cell : goal;
        }

        @Override
        int counts() {
            return super.counts() + 4;
        }
    }

    static class Drawing extends Creeping {
        Drawing(int kind, int figure) {
            super(kind, figure);
        }

        @Override
        int goal(State s, Man m) {
            return someone(s, m, m.cell, figure) ? m.home : super.goal(s, m);
        }

        @Override
        int counts() {
            return 2 * super.counts();
        }

        @Override
        int failure() {
            return -15;
        }
    }

    static class Running extends Role {
        Running(int kind, int figure) {
            super(kind, figure);
        }

        @Override
        int counts() {
            return super.counts() + 7;
        }
    }

    static class Gaoling extends Guarding {
        Gaoling(int kind, int figure) {
            super(kind, figure);
        }

        @Override
        int base(Man m) {
            return GAOLS[m.side];
        }

        @Override
        int counts() {
            return super.counts() - 1;
        }

        @Override
        int failure() {
            return figure == 0 ? -15 : super.failure() + 100;
        }
    }

    static class Freeing extends Running {
        Freeing(int kind, int figure) {
            super(kind, figure);
        }

        @Override
        int goal(State s, Man m) {
            return s.held(m.side) > 0 ? GAOLS[1 - m.side] : super.goal(s, m);
        }

        @Override
        int counts() {
            return super.counts() + figure;
        }

        @Override
        int failure() {
            return figure == 0 ? -15 : 200 + counts();
        }
    }

    static class Ringing extends Guarding {
        Ringing(int kind, int figure) {
            super(kind, figure);
        }

        @Override
        int rest(Man m) {
            return m.side == 0 ? 39 : 44;
        }

        @Override
        int counts() {
            return super.counts() / 2;
        }
    }

    // ---- all that there is

    static final class Man {
        int number;
        int side;
        Role role;
        int home;
        int cell;
        boolean held;
        int brook;

        Man copy() {
            Man m = new Man();
            m.number = number;
            m.side = side;
            m.role = role;
            m.home = home;
            m.cell = cell;
            m.held = held;
            m.brook = brook;
            return m;
        }
    }

    static int apart(int a, int b) {
        return Math.abs(a / 12 - b / 12) + Math.abs(a % 12 - b % 12);
    }

    static int half(int cell) {
        return cell % 12 / 6;
    }

    static final class State {
        int[] ground = new int[84];
        Map<Character, Integer> rules = new HashMap<>(Map.of('r', 1, 'e', 0, 't', 100, 'f', 0, 'l', 0, 'h', 200));
        List<Man> men = new ArrayList<>();
        List<int[]> plans = new ArrayList<>();
        int[] lying = FLAGS.clone();
        int[] carrier = {-4, -4};
        int second;
        int won = 2;
        int touched;
        int first = -4;
        int z = 1;

        State copy() {
            State s = new State();
            s.ground = ground.clone();
            s.rules = new HashMap<>(rules);
            men.forEach(m -> s.men.add(m.copy()));
            s.plans = new ArrayList<>(plans);
            s.lying = lying.clone();
            s.carrier = carrier.clone();
            s.second = second;
            s.won = won;
            s.touched = touched;
            s.first = first;
            s.z = z;
            return s;
        }

        State anew(int seed) {
            State s = copy();
            for (Man m : s.men) {
                m.cell = m.home;
                m.held = false;
                m.brook = 0;
            }
            s.lying = FLAGS.clone();
            s.carrier = new int[] {-4, -4};
            s.second = 0;
            s.won = 2;
            s.touched = 0;
            s.first = -4;
            s.z = seed;
            return s;
        }

        State played(int seed) {
            State s = anew(seed);
            while (!s.ended()) {
                s.goOn();
            }
            return s;
        }

        int against(int n, int seed) {
            int sum = 0;
            for (int i = 0; i < n; i++) {
                int who = played(seed + i).won;
                sum += who == 0 ? 1 : who == 1 ? -1 : 0;
            }
            return sum;
        }

        boolean ended() {
            return won != 2 || second >= rules.get('h');
        }

        List<Man> free() {
            return men.stream().filter(m -> !m.held).toList();
        }

        int held(int side) {
            return (int) men.stream().filter(m -> m.held && m.side == side).count();
        }

        Man man(int number) {
            return men.stream().filter(m -> m.number == number).findFirst().orElse(null);
        }

        int flagCell(int side) {
            return carrier[side] == -4 ? lying[side] : man(carrier[side]).cell;
        }

        boolean has(Man m) {
            return carrier[1 - m.side] == m.number;
        }

        boolean sees(Man m, int cell) {
            return ground[cell] == 1 ? apart(m.cell, cell) <= 1 : apart(m.cell, cell) <= 4;
        }

        Role role(Man m) {
            Role r = m.role;
            for (int[] p : plans) {
                if (m.role.kind == 4 && p[0] == m.side && held(m.side) >= p[1]) {
                    r = Role.of(p[2], p[3]);
                }
            }
            return r;
        }

        int goal(Man m) {
            return has(m) ? m.home : role(m).goal(this, m);
        }

        boolean ring(int side, int cell) {
            return apart(cell, FLAGS[side]) <= rules.get('r');
        }

        boolean enters(Man m, int column, int row) {
            if (column < 0 || column > 11 || row < 0 || row > 6) {
                return false;
            }
            int cell = 12 * row + column;
            return ground[cell] != 3 && (!ring(m.side, cell) || ring(m.side, m.cell));
        }

        int step(Man m, int goal) {
            int c = m.cell % 12;
            int r = m.cell / 12;
            int dc = Integer.signum(goal % 12 - c);
            int dr = Integer.signum(goal / 12 - r);
            boolean columnsFirst = Math.abs(goal % 12 - c) >= Math.abs(goal / 12 - r);
            int[][] ways = columnsFirst ? new int[][] {{dc, 0}, {0, dr}} : new int[][] {{0, dr}, {dc, 0}};
            for (int[] w : ways) {
                if ((w[0] != 0 || w[1] != 0) && enters(m, c + w[0], r + w[1])) {
                    return 12 * (r + w[1]) + c + w[0];
                }
            }
            return m.cell;
        }

        boolean draw() {
            z = z * 1103515245 + 12345;
            return ((z & 0x7fffffff) >> 16) % 100 < rules.get('t');
        }

        void catches(Man m) {
            if (has(m)) {
                lying[1 - m.side] = rules.get('f') == 1 ? FLAGS[1 - m.side] : m.cell;
                carrier[1 - m.side] = -4;
            }
            m.held = true;
            m.brook = 0;
            m.cell = GAOLS[1 - m.side];
            touched++;
        }

        void goOn() {
            second++;
            for (Man m : men) {
                if (!m.held) {
                    turn(m);
                    if (!m.held && has(m) && half(m.cell) == m.side) {
                        won = m.side;
                        return;
                    }
                }
            }
        }

        void turn(Man m) {
            if (m.brook > 0) {
                m.brook--;
            } else {
                int to = step(m, goal(m));
                if (to != m.cell && ground[to] == 2) {
                    m.brook = 1;
                }
                m.cell = to;
                if (carrier[1 - m.side] == -4 && lying[1 - m.side] == m.cell) {
                    carrier[1 - m.side] = m.number;
                    first = first == -4 ? m.number : first;
                }
                if (m.cell == GAOLS[1 - m.side]) {
                    men.stream().filter(o -> o.held && o.side == m.side).limit(rules.get('l') == 1 ? 10 : 1).toList()
                        .forEach(o -> {
                            o.held = false;
                            o.cell = o.home;
                        });
                }
            }
            boolean home = half(m.cell) == m.side;
            for (Man o : free()) {
                boolean touch = o.side != m.side && apart(o.cell, m.cell) <= rules.get('e');
                if (m.held || !touch || home && half(o.cell) != m.side) {
                    continue;
                }
                if (draw()) {
                    catches(home ? o : m);
                }
            }
        }

        // -- statements, each as its text: whether it comes

        boolean comes(String t) {
            char letter = t.charAt(0);
            if ("grp".indexOf(letter) >= 0 && second > 0) {
                return false;
            }
            int[] d = t.substring(1).chars().map(b -> b >= 'a' ? b - 'a' : b - '0').toArray();
            switch (letter) {
                case 'g':
                    return ground(d);
                case 'r':
                    rules.put('r', d[0]);
                    return d[0] <= 3 && men.stream().noneMatch(m -> ring(m.side, m.home));
                case 'p':
                    return player(d);
                case 'c':
                    plans.add(d);
                    return d[0] <= 1 && d[1] >= 1 && d[2] <= 7 && plans.stream().filter(p -> p[0] == d[0]).count() <= 2;
                default:
                    int n = Integer.parseInt(t.substring(1));
                    rules.put(letter, n);
                    return letter == 'h' ? n >= 10 && n <= 600 : n <= (letter == 't' ? 100 : 1);
            }
        }

        boolean ground(int[] d) {
            int c = d.length == 3 ? d[1] : d[3];
            int r = d.length == 3 ? d[2] : d[4];
            for (int cell = 0; cell < 84; cell++) {
                int column = cell % 12;
                int row = cell / 12;
                if ((column - d[1]) * (column - c) <= 0 && (row - d[2]) * (row - r) <= 0) {
                    ground[cell] = d[0];
                }
            }
            return d[0] <= 3 && ground[0] == 0 && ground[83] == 0 && ground[37] == 0 && ground[46] == 0
                && men.stream().noneMatch(m -> ground[m.home] == 3);
        }

        boolean player(int[] d) {
            Man m = new Man();
            m.number = men.size();
            m.side = d[0];
            m.role = Role.of(d[1], d[2]);
            m.home = 12 * d[4] + d[3];
            m.cell = m.home;
            men.add(m);
            return men.size() <= 10 && d[0] <= 1 && d[1] <= 7 && half(m.home) == m.side && ground[m.home] != 3
                && !ring(m.side, m.home);
        }
    }

    // ---- the calls

    private State s = new State();
    private State image;
    private final Object[] shelves = new Object[8];

    /** A row: its sort, and its elements. */
    static final class Row {
        final int sort;
        final long[] elements;

        Row(int sort, int size) {
            this.sort = sort;
            this.elements = new long[size];
        }
    }

    private static boolean in(int n, int a, int b) {
        return a <= n && n <= b;
    }

    private boolean isMan(int n) {
        return in(n, 0, s.men.size() - 1);
    }

    private int shelf(int d, Predicate<Object> well) {
        if (!in(d, 0, 7)) {
            return -1;
        }
        return shelves[d] == null ? -11 : well.test(shelves[d]) ? 0 : -12;
    }

    private static boolean bytes(Object o) {
        return o instanceof Row && ((Row) o).sort == 0;
    }

    private static final Pattern STATEMENT =
        Pattern.compile("g\\d[a-l][0-6]([a-l][0-6])?;|[refl]\\d;|[th](0|[1-9]\\d?\\d?);|p\\d\\d\\d[a-l][0-6];|c\\d\\d\\d\\d;");

    /** The place of the first byte with which no text can go on, by what may stand behind each beginning. */
    private static int shape(String t) {
        for (int size = 1; size <= t.length(); size++) {
            if (!mayGoOn(t.substring(0, size))) {
                return size - 1;
            }
        }
        return t.isEmpty() || !t.endsWith(";") ? t.length() : -1;
    }

    private static boolean mayGoOn(String t) {
        String last = t.endsWith(";") ? t.substring(t.lastIndexOf(';', t.length() - 2) + 1) : t.substring(t.lastIndexOf(';') + 1);
        var m = STATEMENT.matcher(last);
        return m.matches() || !last.endsWith(";") && m.hitEnd();
    }

    int text(int d) {
        int refusal = shelf(d, Model::bytes);
        if (refusal != 0) {
            return refusal;
        }
        StringBuilder b = new StringBuilder();
        for (long e : ((Row) shelves[d]).elements) {
            b.append((char) (e < 0 ? 1000 + e : e));
        }
        String t = b.toString();
        int place = shape(t);
        if (place >= 0) {
            return -1000 - place;
        }
        State tried = s.copy();
        int at = 0;
        int n = 0;
        for (String statement : t.split(";")) {
            if (!tried.comes(statement)) {
                return -2000 - at;
            }
            at += statement.length() + 1;
            n++;
        }
        s = tried;
        return n;
    }

    int ground(int cell) {
        return in(cell, 0, 83) ? s.ground[cell] : -1;
    }

    int rule(int what) {
        return in(what, 0, 5) ? s.rules.get("retflh".charAt(what)) : -1;
    }

    int player(int player, int what) {
        if (!isMan(player) || !in(what, 0, 8)) {
            return -1;
        }
        Man m = s.men.get(player);
        Role r = s.role(m);
        return new int[] {m.side, r.kind, r.figure, m.home, m.cell, m.held ? 1 : 0, s.has(m) ? 1 : 0, m.brook,
            m.held ? -4 : s.goal(m)}[what];
    }

    int role(int player, int d) {
        int refusal = isMan(player) ? shelf(d, o -> o instanceof Role) : -1;
        if (refusal != 0) {
            return refusal;
        }
        s.men.get(player).role = (Role) shelves[d];
        return ((Role) shelves[d]).kind;
    }

    int sees(int player, int cell) {
        if (!isMan(player) || !in(cell, 0, 83)) {
            return -1;
        }
        Man m = s.men.get(player);
        return m.held ? -3 : s.sees(m, cell) ? 1 : 0;
    }

    int flag(int side, int what) {
        if (!in(side, 0, 1) || !in(what, 0, 1)) {
            return -1;
        }
        return what == 0 ? s.flagCell(side) : s.carrier[side];
    }

    int near(int a, int b) {
        return in(a, 0, 83) && in(b, 0, 83) ? apart(a, b) : -1;
    }

    int go(int n) {
        if (!in(n, 1, 100)) {
            return -1;
        }
        if (s.men.isEmpty() || s.ended()) {
            return -3;
        }
        for (int i = 0; i < n && !s.ended(); i++) {
            s.goOn();
        }
        return s.second;
    }

    int state(int what) {
        return in(what, 0, 5)
            ? new int[] {s.second, s.won, s.ended() ? 1 : 0, s.held(0) + s.held(1), s.touched, s.first}[what] : -1;
    }

    int anew() {
        s = s.anew(s.z);
        return s.men.size();
    }

    int seed(int n) {
        int was = s.z;
        s.z = n;
        return was;
    }

    int judge(int player, int d) {
        int refusal = isMan(player) ? shelf(d, o -> o instanceof Row) : -1;
        if (refusal != 0) {
            return refusal;
        }
        Row row = (Row) shelves[d];
        long least = -(1L << (8 << row.sort) - 1);
        State t = s.copy();
        for (int i = 0; i < row.elements.length; i++) {
            if (!t.ended()) {
                t.goOn();
            }
            if (row.elements[i] != least && row.elements[i] != t.men.get(player).cell) {
                return i;
            }
        }
        return -4;
    }

    int game(int z, int what) {
        if (!in(what, 0, 3)) {
            return -1;
        }
        if (s.men.isEmpty()) {
            return -3;
        }
        State t = s.played(z);
        return new int[] {t.won, t.second, t.first, t.touched}[what];
    }

    int against(int n, int z) {
        return !in(n, 1, 10) ? FAR - 1 : s.men.isEmpty() ? FAR - 3 : s.against(n, z);
    }

    int table(int d, int e, int figure, int z) {
        int one = shelf(d, Model::bytes);
        int other = shelf(e, Model::bytes);
        for (int refusal : new int[] {-1, -11, -12}) {
            if (one == refusal || other == refusal || refusal == -1 && !in(figure, 0, 9)) {
                return refusal;
            }
        }
        for (int x : new int[] {d, e}) {
            if (Arrays.stream(((Row) shelves[x]).elements).anyMatch(k -> k < 0 || k > 7)) {
                return -13;
            }
        }
        if (s.men.isEmpty()) {
            return -3;
        }
        State t = s.copy();
        for (int side = 0; side < 2; side++) {
            long[] kinds = ((Row) shelves[side == 0 ? d : e]).elements;
            int told = side;
            List<Man> own = t.men.stream().filter(m -> m.side == told).toList();
            for (int i = 0; i < kinds.length && i < own.size(); i++) {
                own.get(i).role = Role.of((int) kinds[i], figure);
            }
        }
        return t.played(z).won;
    }

    int bestPlan(int player, int figure, int n, int z, int what) {
        if (!isMan(player) || !in(figure, 0, 9) || !in(n, 1, 5) || !in(what, 0, 1)) {
            return FAR - 1;
        }
        TreeMap<Integer, Integer> least = new TreeMap<>();
        for (int kind = 7; kind >= 0; kind--) {
            State t = s.copy();
            Man m = t.men.get(player);
            m.role = Role.of(kind, figure);
            least.put(t.against(n, z) * (m.side == 0 ? 1 : -1), kind);
        }
        return what == 0 ? least.lastEntry().getValue() : least.lastKey();
    }

    int fair(int n, int z) {
        return !in(n, 1, 10) ? -1 : s.men.isEmpty() ? -3 : Math.abs(s.against(n, z)) <= n / 4 ? 1 : 0;
    }

    int smaller(int player, int n, int z) {
        if (!isMan(player) || !in(n, 1, 10)) {
            return FAR - 1;
        }
        State t = s.copy();
        t.men.remove(player);
        return t.anew(0).against(n, z) - s.against(n, z);
    }

    int hour(int n, int z) {
        if (!in(n, 1, 10)) {
            return -1;
        }
        if (s.men.isEmpty()) {
            return -3;
        }
        for (int hour = 10; hour <= 600; hour += 10) {
            State t = s.copy();
            t.rules.put('h', hour);
            long won = IntStream.range(0, n).filter(i -> t.played(z + i).won != 2).count();
            if (won > n - won) {
                return hour;
            }
        }
        return -4;
    }

    private static int gained(int n, int i, int j) {
        return Math.max(n - i - j * 2, 0) - Math.max(n - j - i * 2, 0);
    }

    int gain(int n, int i, int j) {
        return in(n, 1, 6) && in(i, 0, n) && in(j, 0, n) ? gained(n, i, j) : FAR - 1;
    }

    int rests(int n, int k) {
        if (!in(n, 1, 6) || k < -1) {
            return -1;
        }
        List<Integer> all = new ArrayList<>();
        for (int i = 0; i <= n; i++) {
            for (int j = 0; j <= n; j++) {
                int x = i;
                int y = j;
                if (IntStream.rangeClosed(0, n).allMatch(o -> gained(n, o, y) <= gained(n, x, y) && gained(n, x, o) >= gained(n, x, y))) {
                    all.add(10 * i + j);
                }
            }
        }
        return k == -1 ? all.size() : k < all.size() ? all.get(k) : -4;
    }

    int sure(int n, int what) {
        if (!in(n, 1, 6) || !in(what, 0, 1)) {
            return FAR - 1;
        }
        TreeMap<Integer, Integer> leastI = new TreeMap<>();
        for (int i = n; i >= 0; i--) {
            int own = i;
            leastI.put(IntStream.rangeClosed(0, n).map(j -> gained(n, own, j)).min().getAsInt(), i);
        }
        return what == 0 ? leastI.lastKey() : leastI.lastEntry().getValue();
    }

    int guards(int side, int d, int what) {
        if (!in(side, 0, 1) || !in(d, 0, 6) || !in(what, 0, 1)) {
            return -1;
        }
        int[] open = IntStream.range(0, 7).filter(r -> s.ground[12 * r + 5 + side] != 3).toArray();
        return IntStream.range(0, 128).boxed()
            .filter(rows -> IntStream.range(0, 7).allMatch(r -> (rows >> r & 1) == 0 || s.ground[12 * r + 5 + side] != 3))
            .filter(rows -> Arrays.stream(open).allMatch(r -> Arrays.stream(open)
                .filter(g -> (rows >> g & 1) == 1 && Math.abs(g - r) <= d).count() >= 2))
            .min(Comparator.comparingInt((Integer rows) -> Integer.bitCount(rows)).thenComparingInt(rows -> rows))
            .map(rows -> what == 0 ? Integer.bitCount(rows) : rows).orElse(-4);
    }

    int wayIn(int from, int to, int side, int what) {
        if (!in(from, 0, 83) || !in(to, 0, 83) || !in(side, 0, 1) || !in(what, 0, 1)) {
            return -1;
        }
        // sums and steps made better till nothing is better any more
        int[][] best = new int[84][];
        best[from] = new int[] {0, 0};
        boolean better = true;
        while (better) {
            better = false;
            for (int a = 0; a < 84; a++) {
                for (int b = 0; b < 84; b++) {
                    if (best[a] == null || apart(a, b) != 1 || s.ground[b] == 3) {
                        continue;
                    }
                    int cell = b;
                    int seen = (int) s.free().stream().filter(m -> m.side == side && s.sees(m, cell)).count();
                    int[] cost = {best[a][0] + seen, best[a][1] + 1};
                    if (best[b] == null || Arrays.compare(cost, best[b]) < 0) {
                        best[b] = cost;
                        better = true;
                    }
                }
            }
        }
        return best[to] == null ? -4 : best[to][what];
    }

    int mayBe(int cell, int n) {
        if (!in(cell, 0, 83) || !in(n, 0, 20) || s.ground[cell] == 3) {
            return -1;
        }
        boolean[] at = new boolean[84];
        at[cell] = true;
        for (int i = 0; i < n; i++) {
            boolean[] was = at.clone();
            for (int a = 0; a < 84; a++) {
                for (int b = 0; b < 84; b++) {
                    at[b] |= was[a] && apart(a, b) == 1 && s.ground[b] != 3;
                }
            }
        }
        return (int) IntStream.range(0, 84).filter(c -> at[c]).count();
    }

    int worth(int side) {
        return in(side, 0, 1)
            ? s.held(side) - (int) s.free().stream().filter(m -> m.side != side && apart(m.cell, GAOLS[1 - side]) <= 2).count()
            : FAR - 1;
    }

    int believed(int player) {
        if (!isMan(player)) {
            return -1;
        }
        Man told = s.men.get(player);
        return told.held ? -3 : (int) s.free().stream().filter(m -> m.side != told.side && !s.has(m))
            .filter(m -> s.role(m) instanceof Guarding && ((Guarding) s.role(m)).after(s, m) == told).count();
    }

    int image() {
        image = s.copy();
        return s.second;
    }

    int restore() {
        if (image == null) {
            return -3;
        }
        s = image.copy();
        return s.second;
    }

    int count(int what) {
        switch (what) {
            case 0:
                return s.men.size();
            case 1:
                return (int) s.men.stream().filter(m -> m.side == 0).count();
            case 2:
                return s.plans.size();
            case 3:
            case 4:
            case 5:
                return (int) Arrays.stream(s.ground).filter(g -> g == what - 2).count();
            default:
                return -1;
        }
    }

    int keep(int d, int what, int k, int figure) {
        if (!in(d, 0, 7) || !in(what, 0, 1) || what == 1 && (!in(k, 0, 7) || !in(figure, 0, 9))) {
            return -1;
        }
        shelves[d] = what == 0 ? null : Role.of(k, figure);
        return 0;
    }

    int row(int d, int sort, int n) {
        if (!in(d, 0, 7) || !in(sort, 0, 2) || n > 100) {
            return -1;
        }
        if (n < 0) {
            return -14;
        }
        shelves[d] = new Row(sort, n);
        return 0;
    }

    int put(int d, int i, int v) {
        int refusal = shelf(d, o -> o instanceof Row);
        if (refusal != 0) {
            return refusal;
        }
        Row row = (Row) shelves[d];
        if (!in(i, 0, row.elements.length - 1)) {
            return -13;
        }
        int spare = 32 - (8 << row.sort);
        row.elements[i] = v << spare >> spare;
        return 0;
    }

    long element(int d, int i) {
        if (!in(d, 0, 7)) {
            throw new IllegalArgumentException();
        }
        if (!(shelves[d] instanceof Row) || !in(i, 0, ((Row) shelves[d]).elements.length - 1)) {
            throw new IllegalStateException();
        }
        return ((Row) shelves[d]).elements[i];
    }

    int copy(int d, int i, int e, int j, int n) {
        int one = shelf(d, o -> o instanceof Row);
        int other = shelf(e, o -> o instanceof Row);
        for (int refusal : new int[] {-1, -11, -12}) {
            if (one == refusal || other == refusal) {
                return refusal;
            }
        }
        Row from = (Row) shelves[d];
        Row to = (Row) shelves[e];
        if (from.sort != to.sort) {
            return -12;
        }
        if (n < 0 || i < 0 || j < 0 || (long) i + n > from.elements.length || (long) j + n > to.elements.length) {
            return -13;
        }
        long[] taken = Arrays.copyOfRange(from.elements, i, i + n);
        for (int k = 0; k < n; k++) {
            to.elements[j + k] = taken[k];
        }
        return n;
    }

    int counts(int d) {
        int refusal = shelf(d, o -> o instanceof Role);
        return refusal != 0 ? refusal : ((Role) shelves[d]).counts();
    }

    int toss(int d) {
        int refusal = shelf(d, o -> o instanceof Role);
        return refusal != 0 ? refusal : ((Role) shelves[d]).failure();
    }
}
