/** Two flags in a wood: README.md says how to use it, ../shared/DOC.md what each call promises. */
public final class TwoFlags {
    private static final int COLUMNS = 12;
    private static final int ROWS = 7;
    private static final int CELLS = 84;

    private static final int PATH = 0;
    private static final int FERN = 1;
    private static final int BROOK = 2;
    private static final int THICKET = 3;

    private static final int GUARDING = 1;
    private static final int CREEPING = 2;
    private static final int DRAWING = 3;
    private static final int RUNNING = 4;
    private static final int GAOLING = 5;
    private static final int FREEING = 6;
    private static final int RINGING = 7;

    private static final int RING = 0;
    private static final int REACH = 1;
    private static final int TOUCH = 2;
    private static final int FALLS = 3;
    private static final int LETS = 4;
    private static final int HOUR = 5;
    private static final int LONGEST = 600;

    private static final int MOST_PLAYERS = 10;
    private static final int MOST_GAMES = 10;
    private static final int PLANS_OF_A_SIDE = 2;
    private static final int SHELVES = 8;
    private static final int LONGEST_ROW = 100;

    private static final int NOTHING = 0;
    private static final int ROLE = 1;
    private static final int ROW = 2;

    private static final int NOBODY = 2;

    private static final int NO_SUCH = -1;
    private static final int NOT_NOW = -3;
    private static final int NONE = -4;
    private static final int EMPTY = -11;
    private static final int OTHER_KIND = -12;
    private static final int NO_PLACE = -13;
    private static final int BELOW_0 = -14;
    private static final int NO_FAILURE = -15;
    /** What is added to a refusal of a call whose answers may be below 0. */
    private static final int FAR = -1000000000;

    private final Shelf[] shelves = new Shelf[SHELVES];
    private final Wood wood = new Wood();
    /** Where calls play or try out what must leave the wood itself alone. */
    private final Wood mind = new Wood();
    private final Wood image = new Wood();
    private boolean imaged;
    private final Reader reader = new Reader();
    private final Scout scout = new Scout();

    public TwoFlags() {
        for (int i = 0; i < SHELVES; i++) {
            shelves[i] = new Shelf();
        }
    }

    // ---- the wood, rules, players

    public int text(int d) {
        int refusal = wantBytes(d);
        if (refusal != 0) {
            return refusal;
        }
        int place = reader.misshapen(shelves[d]);
        if (place != NONE) {
            return -1000 - place;
        }
        mind.become(wood);
        place = reader.comeTo(mind);
        if (place != NONE) {
            return -2000 - place;
        }
        wood.become(mind);
        return reader.statements;
    }

    public int ground(int cell) {
        return isCell(cell) ? wood.grounds[cell] : NO_SUCH;
    }

    public int rule(int what) {
        return within(what, RING, HOUR) ? wood.rules[what] : NO_SUCH;
    }

    public int player(int player, int what) {
        if (!isPlayer(player)) {
            return NO_SUCH;
        }
        Player p = wood.players[player];
        switch (what) {
            case 0:
                return p.side;
            case 1:
                return wood.kindOf(p);
            case 2:
                return wood.figureOf(p);
            case 3:
                return p.home;
            case 4:
                return p.cell;
            case 5:
                return p.held ? 1 : 0;
            case 6:
                return wood.carries(player) ? 1 : 0;
            case 7:
                return p.brook;
            case 8:
                return p.held ? NONE : wood.goalOf(player);
            default:
                return NO_SUCH;
        }
    }

    public int role(int player, int d) {
        if (!isPlayer(player)) {
            return NO_SUCH;
        }
        int refusal = want(d, ROLE);
        if (refusal != 0) {
            return refusal;
        }
        wood.players[player].kind = shelves[d].kind;
        wood.players[player].figure = shelves[d].figure;
        return shelves[d].kind;
    }

    public int sees(int player, int cell) {
        if (!isPlayer(player) || !isCell(cell)) {
            return NO_SUCH;
        }
        Player p = wood.players[player];
        if (p.held) {
            return NOT_NOW;
        }
        return wood.spots(p, cell) ? 1 : 0;
    }

    public int flag(int side, int what) {
        if (!isSide(side)) {
            return NO_SUCH;
        }
        switch (what) {
            case 0:
                return wood.flags[side];
            case 1:
                return wood.carriers[side];
            default:
                return NO_SUCH;
        }
    }

    public int near(int a, int b) {
        return isCell(a) && isCell(b) ? between(a, b) : NO_SUCH;
    }

    // ---- seconds

    public int go(int n) {
        if (!within(n, 1, 100)) {
            return NO_SUCH;
        }
        if (wood.many == 0 || wood.ended()) {
            return NOT_NOW;
        }
        for (int i = 0; i < n && !wood.ended(); i++) {
            wood.tick();
        }
        return wood.second;
    }

    public int state(int what) {
        switch (what) {
            case 0:
                return wood.second;
            case 1:
                return wood.won;
            case 2:
                return wood.ended() ? 1 : 0;
            case 3:
                return wood.heldOf(0) + wood.heldOf(1);
            case 4:
                return wood.touched;
            case 5:
                return wood.first;
            default:
                return NO_SUCH;
        }
    }

    public int anew() {
        wood.begin(wood.z);
        return wood.many;
    }

    public int seed(int n) {
        int was = wood.z;
        wood.z = n;
        return was;
    }

    public int judge(int player, int d) {
        if (!isPlayer(player)) {
            return NO_SUCH;
        }
        int refusal = want(d, ROW);
        if (refusal != 0) {
            return refusal;
        }
        Shelf told = shelves[d];
        mind.become(wood);
        for (int k = 0; k < told.size; k++) {
            if (!mind.ended()) {
                mind.tick();
            }
            if (told.elements[k] != told.least() && told.elements[k] != mind.players[player].cell) {
                return k;
            }
        }
        return NONE;
    }

    // ---- games in mind

    public int game(int z, int what) {
        if (!within(what, 0, 3)) {
            return NO_SUCH;
        }
        if (wood.many == 0) {
            return NOT_NOW;
        }
        mind.become(wood);
        mind.playGames(1, z);
        switch (what) {
            case 0:
                return mind.won;
            case 1:
                return mind.second;
            case 2:
                return mind.first;
            default:
                return mind.touched;
        }
    }

    public int against(int n, int z) {
        if (!within(n, 1, MOST_GAMES)) {
            return FAR + NO_SUCH;
        }
        if (wood.many == 0) {
            return FAR + NOT_NOW;
        }
        mind.become(wood);
        return mind.playGames(n, z);
    }

    public int table(int d, int e, int figure, int z) {
        if (!isShelf(d) || !isShelf(e) || !isFigure(figure)) {
            return NO_SUCH;
        }
        if (shelves[d].holds == NOTHING || shelves[e].holds == NOTHING) {
            return EMPTY;
        }
        if (!shelves[d].isBytes() || !shelves[e].isBytes()) {
            return OTHER_KIND;
        }
        if (!shelves[d].hasKindsAlone() || !shelves[e].hasKindsAlone()) {
            return NO_PLACE;
        }
        if (wood.many == 0) {
            return NOT_NOW;
        }
        mind.become(wood);
        mind.giveKinds(0, shelves[d], figure);
        mind.giveKinds(1, shelves[e], figure);
        mind.playGames(1, z);
        return mind.won;
    }

    public int bestPlan(int player, int figure, int n, int z, int what) {
        if (!isPlayer(player) || !isFigure(figure) || !within(n, 1, 5) || !within(what, 0, 1)) {
            return FAR + NO_SUCH;
        }
        mind.become(wood);
        Player p = mind.players[player];
        p.figure = figure;
        int best = 0;
        int bestLead = Integer.MIN_VALUE;
        for (int kind = 0; kind <= RINGING; kind++) {
            p.kind = kind;
            int lead = mind.playGames(n, z);
            int own = p.side == 0 ? lead : -lead;
            if (own > bestLead) {
                bestLead = own;
                best = kind;
            }
        }
        return what == 0 ? best : bestLead;
    }

    public int fair(int n, int z) {
        if (!within(n, 1, MOST_GAMES)) {
            return NO_SUCH;
        }
        if (wood.many == 0) {
            return NOT_NOW;
        }
        mind.become(wood);
        return within(mind.playGames(n, z), -(n / 4), n / 4) ? 1 : 0;
    }

    public int smaller(int player, int n, int z) {
        if (!isPlayer(player) || !within(n, 1, MOST_GAMES)) {
            return FAR + NO_SUCH;
        }
        mind.become(wood);
        int with = mind.playGames(n, z);
        mind.players[player].out = true;
        return mind.playGames(n, z) - with;
    }

    public int hour(int n, int z) {
        if (!within(n, 1, MOST_GAMES)) {
            return NO_SUCH;
        }
        if (wood.many == 0) {
            return NOT_NOW;
        }
        mind.become(wood);
        mind.rules[HOUR] = LONGEST;
        mind.playGames(n, z);
        return mind.leastHour(n);
    }

    // ---- numbers at home and over

    public int gain(int n, int i, int j) {
        if (!within(n, 1, 6) || !within(i, 0, n) || !within(j, 0, n)) {
            return FAR + NO_SUCH;
        }
        return gained(n, i, j);
    }

    public int rests(int n, int k) {
        if (!within(n, 1, 6) || k < -1) {
            return NO_SUCH;
        }
        int found = 0;
        for (int i = 0; i <= n; i++) {
            for (int j = 0; j <= n; j++) {
                if (isRest(n, i, j)) {
                    if (found == k) {
                        return 10 * i + j;
                    }
                    found++;
                }
            }
        }
        return k == -1 ? found : NONE;
    }

    public int sure(int n, int what) {
        if (!within(n, 1, 6) || !within(what, 0, 1)) {
            return FAR + NO_SUCH;
        }
        int best = 0;
        for (int i = 1; i <= n; i++) {
            if (leastGain(n, i) > leastGain(n, best)) {
                best = i;
            }
        }
        return what == 0 ? leastGain(n, best) : best;
    }

    // ---- guards, ways, where one is

    public int guards(int side, int d, int what) {
        if (!isSide(side) || !within(d, 0, ROWS - 1) || !within(what, 0, 1)) {
            return NO_SUCH;
        }
        int rows = scout.fewestGuards(wood, side == 0 ? 5 : 6, d);
        if (rows == NONE) {
            return NONE;
        }
        return what == 0 ? Integer.bitCount(rows) : rows;
    }

    public int wayIn(int from, int to, int side, int what) {
        if (!isCell(from) || !isCell(to) || !isSide(side) || !within(what, 0, 1)) {
            return NO_SUCH;
        }
        int cost = scout.leastSeenWay(wood, from, to, side);
        if (cost == NONE) {
            return NONE;
        }
        return what == 0 ? cost / Scout.SEEN : cost % Scout.SEEN;
    }

    public int mayBe(int cell, int n) {
        if (!isCell(cell) || !within(n, 0, 20) || wood.grounds[cell] == THICKET) {
            return NO_SUCH;
        }
        return scout.cellsWithin(wood, cell, n);
    }

    public int worth(int side) {
        if (!isSide(side)) {
            return FAR + NO_SUCH;
        }
        return wood.heldOf(side) - wood.keepersOf(1 - side);
    }

    public int believed(int player) {
        if (!isPlayer(player)) {
            return NO_SUCH;
        }
        if (wood.players[player].held) {
            return NOT_NOW;
        }
        int found = 0;
        for (int i = 0; i < wood.many; i++) {
            if (wood.goesAfter(i) == player) {
                found++;
            }
        }
        return found;
    }

    // ---- the image, what is told

    public int image() {
        image.become(wood);
        imaged = true;
        return wood.second;
    }

    public int restore() {
        if (!imaged) {
            return NOT_NOW;
        }
        wood.become(image);
        return wood.second;
    }

    public int count(int what) {
        switch (what) {
            case 0:
                return wood.many;
            case 1:
                return wood.playersOf(0);
            case 2:
                return wood.planned;
            case 3:
                return wood.cellsOf(FERN);
            case 4:
                return wood.cellsOf(BROOK);
            case 5:
                return wood.cellsOf(THICKET);
            default:
                return NO_SUCH;
        }
    }

    // ---- shelves

    public int keep(int d, int what, int k, int figure) {
        if (!isShelf(d) || !within(what, NOTHING, ROLE)) {
            return NO_SUCH;
        }
        if (what == NOTHING) {
            shelves[d].holds = NOTHING;
            return 0;
        }
        if (!isKind(k) || !isFigure(figure)) {
            return NO_SUCH;
        }
        shelves[d].takeRole(k, figure);
        return 0;
    }

    public int row(int d, int sort, int n) {
        if (!isShelf(d) || !within(sort, 0, 2) || n > LONGEST_ROW) {
            return NO_SUCH;
        }
        if (n < 0) {
            return BELOW_0;
        }
        shelves[d].takeRow(sort, n);
        return 0;
    }

    public int put(int d, int i, int v) {
        int refusal = want(d, ROW);
        if (refusal != 0) {
            return refusal;
        }
        if (!shelves[d].hasPlaces(i, 1)) {
            return NO_PLACE;
        }
        shelves[d].elements[i] = shelves[d].lowestBits(v);
        return 0;
    }

    public long element(int d, int i) throws IllegalArgumentException, IllegalStateException {
        if (!isShelf(d)) {
            throw new IllegalArgumentException("no such shelf");
        }
        if (shelves[d].holds != ROW || !shelves[d].hasPlaces(i, 1)) {
            throw new IllegalStateException("no row, or no such place");
        }
        return shelves[d].elements[i];
    }

    public int copy(int d, int i, int e, int j, int n) {
        if (!isShelf(d) || !isShelf(e)) {
            return NO_SUCH;
        }
        Shelf from = shelves[d];
        Shelf to = shelves[e];
        if (from.holds == NOTHING || to.holds == NOTHING) {
            return EMPTY;
        }
        if (from.holds != ROW || to.holds != ROW || from.sort != to.sort) {
            return OTHER_KIND;
        }
        if (!from.hasPlaces(i, n) || !to.hasPlaces(j, n)) {
            return NO_PLACE;
        }
        System.arraycopy(from.elements, i, to.elements, j, n);
        return n;
    }

    public int counts(int d) {
        int refusal = want(d, ROLE);
        return refusal != 0 ? refusal : shelves[d].worthOfRole();
    }

    public int toss(int d) {
        int refusal = want(d, ROLE);
        if (refusal != 0) {
            return refusal;
        }
        try {
            shelves[d].fail();
        } catch (IllegalStateException failure) {
            return shelves[d].failure();
        }
        return NO_FAILURE;
    }

    // ---- what several calls ask

    private static boolean within(int n, int least, int most) {
        return n >= least && n <= most;
    }

    private static boolean isCell(int cell) {
        return within(cell, 0, CELLS - 1);
    }

    private static boolean isSide(int side) {
        return within(side, 0, 1);
    }

    private static boolean isKind(int kind) {
        return within(kind, 0, RINGING);
    }

    private static boolean isFigure(int figure) {
        return within(figure, 0, 9);
    }

    private static boolean isShelf(int d) {
        return within(d, 0, SHELVES - 1);
    }

    private boolean isPlayer(int player) {
        return within(player, 0, wood.many - 1);
    }

    /** 0 if shelf d holds a ROLE (or a ROW, as told), else the refusal. */
    private int want(int d, int what) {
        if (!isShelf(d)) {
            return NO_SUCH;
        }
        if (shelves[d].holds == NOTHING) {
            return EMPTY;
        }
        return shelves[d].holds == what ? 0 : OTHER_KIND;
    }

    private int wantBytes(int d) {
        int refusal = want(d, ROW);
        if (refusal != 0) {
            return refusal;
        }
        return shelves[d].isBytes() ? 0 : OTHER_KIND;
    }

    private static int between(int a, int b) {
        int columns = a % COLUMNS - b % COLUMNS;
        int rows = a / COLUMNS - b / COLUMNS;
        return (columns < 0 ? -columns : columns) + (rows < 0 ? -rows : rows);
    }

    private static int sideOf(int cell) {
        return cell % COLUMNS < COLUMNS / 2 ? 0 : 1;
    }

    private static int flagPlaceOf(int side) {
        return side == 0 ? 37 : 46;
    }

    private static int gaolOf(int side) {
        return side == 0 ? 0 : 83;
    }

    private static int ringPostOf(int side) {
        return side == 0 ? 39 : 44;
    }

    private static int gained(int n, int i, int j) {
        int own = n - i - 2 * j;
        int others = n - j - 2 * i;
        return (own > 0 ? own : 0) - (others > 0 ? others : 0);
    }

    private static boolean isRest(int n, int i, int j) {
        int now = gained(n, i, j);
        for (int other = 0; other <= n; other++) {
            // side 1 gains what side 0 loses
            if (gained(n, other, j) > now || gained(n, i, other) < now) {
                return false;
            }
        }
        return true;
    }

    private static int leastGain(int n, int i) {
        int least = gained(n, i, 0);
        for (int j = 1; j <= n; j++) {
            least = Math.min(least, gained(n, i, j));
        }
        return least;
    }

    /** A shelf; its row of numbers is made once and used again for each ROW that it gets. */
    private static final class Shelf {
        int holds = NOTHING;
        int kind;
        int figure;
        int sort;
        int size;
        final int[] elements = new int[LONGEST_ROW];

        void takeRole(int newKind, int newFigure) {
            holds = ROLE;
            kind = newKind;
            figure = newFigure;
        }

        void takeRow(int newSort, int newSize) {
            holds = ROW;
            sort = newSort;
            size = newSize;
            for (int i = 0; i < LONGEST_ROW; i++) {
                elements[i] = 0;
            }
        }

        boolean isBytes() {
            return holds == ROW && sort == 0;
        }

        /** Whether n places from i on are there; said so that no sum can wrap around. */
        boolean hasPlaces(int i, int n) {
            return i >= 0 && i <= size && n >= 0 && n <= size - i;
        }

        int lowestBits(int v) {
            if (sort == 0) {
                return (byte) v;
            }
            return sort == 1 ? (short) v : v;
        }

        int least() {
            if (sort == 0) {
                return -128;
            }
            return sort == 1 ? -32768 : Integer.MIN_VALUE;
        }

        boolean hasKindsAlone() {
            for (int i = 0; i < size; i++) {
                if (!isKind(elements[i])) {
                    return false;
                }
            }
            return true;
        }

        int worthOfRole() {
            switch (kind) {
                case GUARDING:
                    return 1 + figure;
                case CREEPING:
                    return 5;
                case DRAWING:
                    return 10;
                case RUNNING:
                    return 8;
                case GAOLING:
                    return figure;
                case FREEING:
                    return 8 + figure;
                case RINGING:
                    return (1 + figure) / 2;
                default:
                    return 1;
            }
        }

        void fail() {
            if (figure != 0 && kind != DRAWING) {
                throw new IllegalStateException("the failure of a role");
            }
        }

        int failure() {
            if (kind == FREEING) {
                return 200 + worthOfRole();
            }
            return kind == GAOLING ? 100 + figure : figure;
        }
    }

    private static final class Player {
        int side;
        int kind;
        int figure;
        int home;
        int cell;
        int brook;
        boolean held;
        /** In a game in mind: this one is as if it weren't there. */
        boolean out;

        void become(Player other) {
            side = other.side;
            kind = other.kind;
            figure = other.figure;
            home = other.home;
            cell = other.cell;
            brook = other.brook;
            held = other.held;
            out = other.out;
        }

        boolean isFree() {
            return !held && !out;
        }

        void goHome() {
            cell = home;
            brook = 0;
            held = false;
        }
    }

    /** All that there is but shelves and image: the ground, the rules, the players and their game. */
    private static final class Wood {
        /** Numbers that a plan has in its row: SIDE, n, KIND, FIGURE. */
        static final int PLAN = 4;

        final int[] grounds = new int[CELLS];
        final int[] rules = {1, 0, 100, 0, 0, 200};
        final Player[] players = new Player[MOST_PLAYERS];
        int many;
        final int[] plans = new int[2 * PLANS_OF_A_SIDE * PLAN];
        int planned;
        final int[] flags = new int[2];
        final int[] carriers = new int[2];
        int second;
        int won;
        int touched;
        int first;
        int z;
        /** The second at which each of the games played last was won, or NONE. */
        final int[] wonAt = new int[MOST_GAMES];

        Wood() {
            for (int i = 0; i < MOST_PLAYERS; i++) {
                players[i] = new Player();
            }
            begin(1);
        }

        void become(Wood other) {
            System.arraycopy(other.grounds, 0, grounds, 0, CELLS);
            System.arraycopy(other.rules, 0, rules, 0, rules.length);
            for (int i = 0; i < MOST_PLAYERS; i++) {
                players[i].become(other.players[i]);
            }
            many = other.many;
            System.arraycopy(other.plans, 0, plans, 0, plans.length);
            planned = other.planned;
            for (int side = 0; side < 2; side++) {
                flags[side] = other.flags[side];
                carriers[side] = other.carriers[side];
            }
            second = other.second;
            won = other.won;
            touched = other.touched;
            first = other.first;
            z = other.z;
        }

        // -- what a text may change; each answers whether it can be

        boolean lay(int ground, int a, int b) {
            if (second > 0 || !within(ground, PATH, THICKET) || !isCell(a) || !isCell(b)) {
                return false;
            }
            int left = Math.min(a % COLUMNS, b % COLUMNS);
            int right = Math.max(a % COLUMNS, b % COLUMNS);
            int top = Math.min(a / COLUMNS, b / COLUMNS);
            int bottom = Math.max(a / COLUMNS, b / COLUMNS);
            for (int row = top; row <= bottom; row++) {
                for (int column = left; column <= right; column++) {
                    int cell = COLUMNS * row + column;
                    if (!mayBecome(cell, ground)) {
                        return false;
                    }
                    grounds[cell] = ground;
                }
            }
            return true;
        }

        boolean mayBecome(int cell, int ground) {
            if (ground == PATH) {
                return true;
            }
            for (int side = 0; side < 2; side++) {
                if (cell == flagPlaceOf(side) || cell == gaolOf(side)) {
                    return false;
                }
            }
            for (int i = 0; i < many; i++) {
                if (ground == THICKET && players[i].home == cell) {
                    return false;
                }
            }
            return true;
        }

        boolean setRing(int ring) {
            if (second > 0 || !within(ring, 0, 3)) {
                return false;
            }
            rules[RING] = ring;
            for (int i = 0; i < many; i++) {
                if (isInRing(players[i].side, players[i].home)) {
                    return false;
                }
            }
            return true;
        }

        boolean setRule(int what, int value, int least, int most) {
            if (!within(value, least, most)) {
                return false;
            }
            rules[what] = value;
            return true;
        }

        boolean addPlayer(int side, int kind, int figure, int home) {
            if (second > 0 || !isSide(side) || !isKind(kind) || many >= MOST_PLAYERS) {
                return false;
            }
            if (!isCell(home) || sideOf(home) != side || groundOf(home) == THICKET || isInRing(side, home)) {
                return false;
            }
            Player p = players[many];
            p.side = side;
            p.kind = kind;
            p.figure = figure;
            p.home = home;
            p.goHome();
            many++;
            return true;
        }

        boolean addPlan(int side, int n, int kind, int figure) {
            if (!isSide(side) || n < 1 || !isKind(kind)) {
                return false;
            }
            int own = 0;
            for (int i = 0; i < planned; i++) {
                if (plans[PLAN * i] == side) {
                    own++;
                }
            }
            if (own >= PLANS_OF_A_SIDE || planned >= 2 * PLANS_OF_A_SIDE) {
                return false;
            }
            plans[PLAN * planned] = side;
            plans[PLAN * planned + 1] = n;
            plans[PLAN * planned + 2] = kind;
            plans[PLAN * planned + 3] = figure;
            planned++;
            return true;
        }

        // -- what is asked of it

        boolean ended() {
            return won != NOBODY || second >= rules[HOUR];
        }

        /** Out of the wood as of thicket: it can't be entered. */
        int groundOf(int cell) {
            return cell >= 0 && cell < CELLS ? grounds[cell] : THICKET;
        }

        int cellsOf(int ground) {
            int found = 0;
            for (int cell = 0; cell < CELLS; cell++) {
                if (grounds[cell] == ground) {
                    found++;
                }
            }
            return found;
        }

        int playersOf(int side) {
            int found = 0;
            for (int i = 0; i < many; i++) {
                if (players[i].side == side) {
                    found++;
                }
            }
            return found;
        }

        int heldOf(int side) {
            int found = 0;
            for (int i = 0; i < many; i++) {
                if (players[i].side == side && players[i].held) {
                    found++;
                }
            }
            return found;
        }

        /** How many free ones of a side stand about their own gaol. */
        int keepersOf(int side) {
            int found = 0;
            for (int i = 0; i < many; i++) {
                Player p = players[i];
                if (p.side == side && p.isFree() && between(p.cell, gaolOf(side)) <= 2) {
                    found++;
                }
            }
            return found;
        }

        boolean isInRing(int side, int cell) {
            return between(cell, flagPlaceOf(side)) <= rules[RING];
        }

        boolean carries(int player) {
            return carriers[1 - players[player].side] == player;
        }

        boolean spots(Player p, int cell) {
            return between(p.cell, cell) <= (groundOf(cell) == FERN ? 1 : 4);
        }

        int watchersOf(int cell, int side) {
            int found = 0;
            for (int i = 0; i < many; i++) {
                Player p = players[i];
                if (p.side == side && p.isFree() && spots(p, cell)) {
                    found++;
                }
            }
            return found;
        }

        /** The place in the row of plans of the one by which a player is another kind now, or NONE. */
        int planOf(Player p) {
            int found = NONE;
            if (p.kind == RUNNING && planned > 0) {
                int held = heldOf(p.side);
                for (int at = 0; at < PLAN * planned; at += PLAN) {
                    if (plans[at] == p.side && held >= plans[at + 1]) {
                        found = at;
                    }
                }
            }
            return found;
        }

        int kindOf(Player p) {
            int plan = planOf(p);
            return plan == NONE ? p.kind : plans[plan + 2];
        }

        int figureOf(Player p) {
            int plan = planOf(p);
            return plan == NONE ? p.figure : plans[plan + 3];
        }

        // -- where a player goes

        static boolean isGuard(int kind) {
            return kind == GUARDING || kind == GAOLING || kind == RINGING;
        }

        int goalOf(int player) {
            Player p = players[player];
            if (carries(player)) {
                return p.home;
            }
            int kind = kindOf(p);
            if (isGuard(kind)) {
                int other = quarryOf(p, kind);
                return other == NONE ? postOf(p, kind) : players[other].cell;
            }
            int figure = figureOf(p);
            if (kind == DRAWING && isFaced(p.side, p.cell, figure)) {
                return p.home;
            }
            if (kind == CREEPING || kind == DRAWING) {
                return creep(p, figure);
            }
            if (kind == FREEING && heldOf(p.side) > 0) {
                return gaolOf(1 - p.side);
            }
            return flags[1 - p.side];
        }

        int postOf(Player p, int kind) {
            if (kind == GAOLING) {
                return gaolOf(p.side);
            }
            return kind == RINGING ? ringPostOf(p.side) : p.home;
        }

        /** The one whom a guard goes after, or NONE. */
        int quarryOf(Player p, int kind) {
            int kept = kind == GAOLING ? gaolOf(p.side) : p.home;
            int farthest = figureOf(p) + 1;
            int found = NONE;
            int nearest = Integer.MAX_VALUE;
            for (int i = 0; i < many; i++) {
                Player other = players[i];
                if (other.side == p.side || !other.isFree() || sideOf(other.cell) != p.side) {
                    continue;
                }
                int near = between(p.cell, other.cell);
                if (near < nearest && spots(p, other.cell) && between(kept, other.cell) <= farthest) {
                    nearest = near;
                    found = i;
                }
            }
            return found;
        }

        /** Whom a player, if it is a guard that is free to go after anyone, goes after now, or NONE. */
        int goesAfter(int player) {
            Player p = players[player];
            int kind = kindOf(p);
            if (!p.isFree() || carries(player) || !isGuard(kind)) {
                return NONE;
            }
            return quarryOf(p, kind);
        }

        /** Whether some free one of the other side, on its own half, is so near to a cell. */
        boolean isFaced(int side, int cell, int near) {
            for (int i = 0; i < many; i++) {
                Player other = players[i];
                if (other.side != side && other.isFree() && sideOf(other.cell) == other.side
                        && between(other.cell, cell) <= near) {
                    return true;
                }
            }
            return false;
        }

        int creep(Player p, int figure) {
            int goal = flags[1 - p.side];
            return isFaced(p.side, stepOf(p, goal), figure / 2) ? p.cell : goal;
        }

        int stepOf(Player p, int goal) {
            int columns = goal % COLUMNS - p.cell % COLUMNS;
            int rows = goal / COLUMNS - p.cell / COLUMNS;
            int alongColumns = p.cell + (columns < 0 ? -1 : 1);
            int alongRows = p.cell + (rows < 0 ? -COLUMNS : COLUMNS);
            boolean mayColumns = columns != 0 && mayEnter(p, alongColumns);
            boolean mayRows = rows != 0 && mayEnter(p, alongRows);
            boolean columnsAhead = columns * columns >= rows * rows;
            if (mayColumns && (columnsAhead || !mayRows)) {
                return alongColumns;
            }
            return mayRows ? alongRows : p.cell;
        }

        boolean mayEnter(Player p, int cell) {
            if (groundOf(cell) == THICKET) {
                return false;
            }
            int flag = flagPlaceOf(p.side);
            return between(cell, flag) > rules[RING] || between(p.cell, flag) <= rules[RING];
        }

        // -- a second

        void tick() {
            second++;
            for (int i = 0; i < many && won == NOBODY; i++) {
                Player p = players[i];
                if (!p.isFree()) {
                    continue;
                }
                if (p.brook > 0) {
                    p.brook--;
                } else {
                    walk(i, stepOf(p, goalOf(i)));
                    takeFlag(i);
                    freeOthers(p);
                }
                touchAround(i);
                if (carries(i) && sideOf(p.cell) == p.side) {
                    won = p.side;
                }
            }
        }

        void walk(int player, int cell) {
            Player p = players[player];
            if (cell == p.cell) {
                return;
            }
            p.cell = cell;
            p.brook = groundOf(cell) == BROOK ? 1 : 0;
            if (carries(player)) {
                flags[1 - p.side] = cell;
            }
        }

        void takeFlag(int player) {
            Player p = players[player];
            int other = 1 - p.side;
            if (carriers[other] != NONE || flags[other] != p.cell) {
                return;
            }
            carriers[other] = player;
            if (first == NONE) {
                first = player;
            }
        }

        void freeOthers(Player p) {
            if (p.cell != gaolOf(1 - p.side)) {
                return;
            }
            for (int i = 0; i < many; i++) {
                if (players[i].side == p.side && players[i].held) {
                    players[i].goHome();
                    if (rules[LETS] == 0) {
                        return;
                    }
                }
            }
        }

        void touchAround(int player) {
            Player p = players[player];
            boolean atHome = sideOf(p.cell) == p.side;
            for (int i = 0; i < many && !p.held; i++) {
                Player other = players[i];
                if (other.side == p.side || !other.isFree() || between(p.cell, other.cell) > rules[REACH]) {
                    continue;
                }
                if (atHome && sideOf(other.cell) != p.side) {
                    continue;
                }
                if (draw() < rules[TOUCH]) {
                    hold(atHome ? i : player);
                }
            }
        }

        int draw() {
            z = z * 1103515245 + 12345;
            return (z & Integer.MAX_VALUE) / 65536 % 100;
        }

        void hold(int player) {
            Player p = players[player];
            int other = 1 - p.side;
            if (carries(player)) {
                carriers[other] = NONE;
                flags[other] = rules[FALLS] == 0 ? p.cell : flagPlaceOf(other);
            }
            p.held = true;
            p.brook = 0;
            p.cell = gaolOf(other);
            touched++;
        }

        // -- games

        void begin(int seed) {
            for (int i = 0; i < many; i++) {
                players[i].goHome();
            }
            for (int side = 0; side < 2; side++) {
                flags[side] = flagPlaceOf(side);
                carriers[side] = NONE;
            }
            second = 0;
            won = NOBODY;
            touched = 0;
            first = NONE;
            z = seed;
        }

        /** Plays n games by seeds one behind the other: how many side 0 has won less how many side 1 has. */
        int playGames(int n, int seed) {
            int lead = 0;
            for (int game = 0; game < n; game++) {
                begin(seed + game);
                for (int i = 0; i < LONGEST && !ended(); i++) {
                    tick();
                }
                wonAt[game] = won == NOBODY ? NONE : second;
                if (won != NOBODY) {
                    lead += won == 0 ? 1 : -1;
                }
            }
            return lead;
        }

        /** By the n games just played to the longest hour: a game won at a second is won at each hour from then on. */
        int leastHour(int n) {
            for (int hour = 10; hour <= LONGEST; hour += 10) {
                int wonByThen = 0;
                for (int game = 0; game < n; game++) {
                    if (wonAt[game] != NONE && wonAt[game] <= hour) {
                        wonByThen++;
                    }
                }
                if (2 * wonByThen > n) {
                    return hour;
                }
            }
            return NONE;
        }

        void giveKinds(int side, Shelf kinds, int figure) {
            int at = 0;
            for (int i = 0; i < many && at < kinds.size; i++) {
                if (players[i].side == side) {
                    players[i].kind = kinds.elements[at];
                    players[i].figure = figure;
                    at++;
                }
            }
        }
    }

    /** Reads a TEXT: first its shape alone (kind 1), then statement by statement (kind 2). */
    private static final class Reader {
        private Shelf bytes = new Shelf();
        private int place;
        int statements;

        /** The place of the first byte with which no text can go on, or NONE. */
        int misshapen(Shelf shelf) {
            bytes = shelf;
            place = 0;
            statements = 0;
            boolean well = bytes.size > 0;
            for (int i = 0; i < LONGEST_ROW && well && place < bytes.size; i++) {
                well = passStatement();
                statements++;
            }
            return well ? NONE : place;
        }

        private boolean passStatement() {
            String shape = shapeOf(byteAt(place));
            if (shape.isEmpty()) {
                return false;
            }
            place++;
            for (int i = 0; i < shape.length(); i++) {
                if (!passSign(shape.charAt(i))) {
                    return false;
                }
            }
            return pass(';', ';');
        }

        /** What stands behind a letter: d a digit, c a column, r a row, n a number, ? perhaps a cell. */
        private static String shapeOf(int letter) {
            switch (letter) {
                case 'g':
                    return "dcr?";
                case 'r':
                case 'e':
                case 'f':
                case 'l':
                    return "d";
                case 't':
                case 'h':
                    return "n";
                case 'p':
                    return "dddcr";
                case 'c':
                    return "dddd";
                default:
                    return "";
            }
        }

        private boolean passSign(int sign) {
            switch (sign) {
                case 'd':
                    return pass('0', '9');
                case 'c':
                    return pass('a', 'l');
                case 'r':
                    return pass('0', '6');
                case 'n':
                    return passNumber();
                default:
                    return !pass('a', 'l') || pass('0', '6');
            }
        }

        private boolean passNumber() {
            if (pass('0', '0')) {
                return true;
            }
            if (!pass('1', '9')) {
                return false;
            }
            if (pass('0', '9')) {
                pass('0', '9');
            }
            return true;
        }

        private boolean pass(int least, int most) {
            if (place >= bytes.size || !within(byteAt(place), least, most)) {
                return false;
            }
            place++;
            return true;
        }

        /** The place of the first statement that can't be done to the wood, or NONE; its shape is known. */
        int comeTo(Wood wood) {
            int start = 0;
            for (int at = 0; at < bytes.size; at++) {
                if (byteAt(at) == ';') {
                    if (!comesTo(wood, start, at)) {
                        return start;
                    }
                    start = at + 1;
                }
            }
            return NONE;
        }

        private boolean comesTo(Wood wood, int at, int end) {
            int digit = digit(at + 1);
            switch (byteAt(at)) {
                case 'g':
                    return wood.lay(digit, cell(at + 2), cell(end - 2));
                case 'r':
                    return wood.setRing(digit);
                case 'e':
                    return wood.setRule(REACH, digit, 0, 1);
                case 'f':
                    return wood.setRule(FALLS, digit, 0, 1);
                case 'l':
                    return wood.setRule(LETS, digit, 0, 1);
                case 't':
                    return wood.setRule(TOUCH, number(at + 1, end), 0, 100);
                case 'h':
                    return wood.setRule(HOUR, number(at + 1, end), 10, LONGEST);
                case 'p':
                    return wood.addPlayer(digit, digit(at + 2), digit(at + 3), cell(at + 4));
                default:
                    return wood.addPlan(digit, digit(at + 2), digit(at + 3), digit(at + 4));
            }
        }

        /** The byte at a place, 0 where there is none. */
        private int byteAt(int at) {
            return bytes.hasPlaces(at, 1) ? bytes.elements[at] : 0;
        }

        private int digit(int at) {
            return byteAt(at) - '0';
        }

        private int cell(int at) {
            return COLUMNS * digit(at + 1) + byteAt(at) - 'a';
        }

        private int number(int at, int end) {
            int n = 0;
            for (int i = at; i < end; i++) {
                n = 10 * n + digit(i);
            }
            return n;
        }
    }

    /** Looks over the wood for guards, ways and places; its rows are used again each time. */
    private static final class Scout {
        /** A way costs so much for each one that sees a cell of it, and 1 for each step. */
        static final int SEEN = 1000;

        private final int[] costs = new int[CELLS];
        private final boolean[] settled = new boolean[CELLS];

        /** The rows of the fewest guards of a column as bits, or NONE. */
        int fewestGuards(Wood wood, int column, int d) {
            int open = 0;
            for (int row = 0; row < ROWS; row++) {
                if (wood.groundOf(COLUMNS * row + column) != THICKET) {
                    open |= 1 << row;
                }
            }
            int best = NONE;
            for (int rows = 0; rows < 1 << ROWS; rows++) {
                boolean fewer = best == NONE || Integer.bitCount(rows) < Integer.bitCount(best);
                if ((rows & ~open) == 0 && fewer && seesEachTwice(rows, open, d)) {
                    best = rows;
                }
            }
            return best;
        }

        private static boolean seesEachTwice(int rows, int open, int d) {
            for (int row = 0; row < ROWS; row++) {
                int seeing = 0;
                for (int guard = Math.max(0, row - d); guard < ROWS && guard <= row + d; guard++) {
                    seeing += rows >> guard & 1;
                }
                if ((open >> row & 1) == 1 && seeing < 2) {
                    return false;
                }
            }
            return true;
        }

        /** What the way costs, or NONE: by the cheapest cell first, as costs are never below 0. */
        int leastSeenWay(Wood wood, int from, int to, int side) {
            for (int cell = 0; cell < CELLS; cell++) {
                costs[cell] = Integer.MAX_VALUE;
                settled[cell] = false;
            }
            costs[from] = 0;
            for (int i = 0; i < CELLS; i++) {
                int cell = cheapest();
                if (cell == NONE) {
                    return NONE;
                }
                if (cell == to) {
                    return costs[cell];
                }
                settled[cell] = true;
                for (int way = 0; way < 4; way++) {
                    int next = beside(cell, way);
                    if (next != NONE && !settled[next] && wood.groundOf(next) != THICKET) {
                        int cost = costs[cell] + 1 + SEEN * wood.watchersOf(next, side);
                        costs[next] = Math.min(costs[next], cost);
                    }
                }
            }
            return NONE;
        }

        private int cheapest() {
            int found = NONE;
            int least = Integer.MAX_VALUE;
            for (int cell = 0; cell < CELLS; cell++) {
                if (!settled[cell] && costs[cell] < least) {
                    least = costs[cell];
                    found = cell;
                }
            }
            return found;
        }

        private static int beside(int cell, int way) {
            int column = cell % COLUMNS;
            switch (way) {
                case 0:
                    return column > 0 ? cell - 1 : NONE;
                case 1:
                    return column < COLUMNS - 1 ? cell + 1 : NONE;
                case 2:
                    return cell >= COLUMNS ? cell - COLUMNS : NONE;
                default:
                    return cell < CELLS - COLUMNS ? cell + COLUMNS : NONE;
            }
        }

        int cellsWithin(Wood wood, int cell, int n) {
            for (int i = 0; i < CELLS; i++) {
                costs[i] = Integer.MAX_VALUE;
            }
            costs[cell] = 0;
            int found = 1;
            for (int steps = 1; steps <= n; steps++) {
                for (int i = 0; i < CELLS; i++) {
                    if (costs[i] == Integer.MAX_VALUE && wood.groundOf(i) != THICKET && isReached(i, steps - 1)) {
                        costs[i] = steps;
                        found++;
                    }
                }
            }
            return found;
        }

        private boolean isReached(int cell, int steps) {
            for (int way = 0; way < 4; way++) {
                int next = beside(cell, way);
                if (next != NONE && costs[next] == steps) {
                    return true;
                }
            }
            return false;
        }
    }
}
