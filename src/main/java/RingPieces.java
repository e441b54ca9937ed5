/**
 * Plans, builds and measures the rings of a tunnel, so that all together follow a line.
 * A call that the document refuses changes nothing and answers one of the negative numbers below.
 */
public final class RingPieces {
    public static final int NONE = -1;

    private static final int UNKNOWN_NUMBER = -1;
    private static final int OUTSIDE_RANGE = -2;
    private static final int WRONG_STATE = -3;
    private static final int NO_ROOM = -4;

    private static final int OPEN = 0;
    private static final int PLANNED = 1;
    private static final int BUILT = 2;

    private static final int MOST_RINGS = 24;
    private static final int MOST_TAPER = 200;
    private static final int MOST_STOCK = 99;
    private static final int MOST_LINE = 10000000;
    private static final int MOST_SURVEY = 100000;
    private static final int MOST_LOOK = 2;

    // No sum of OFFS comes near it, so that every way is better than none.
    private static final long NO_WAY = 1L << 62;

    private final Kinds kinds;
    private final Keys keys;
    private final Tunnel tunnel;
    private int ahead;
    private int plans;
    private int chosenKind;
    private int chosenTurn;

    public RingPieces(int rings) {
        kinds = new Kinds();
        keys = new Keys();
        tunnel = new Tunnel(Math.max(1, Math.min(MOST_RINGS, rings)));
        ahead = 1;
        plans = 0;
        chosenKind = NONE;
        chosenTurn = NONE;
    }

    public int kind(int taper, int stock) {
        if (!isWithin(taper, 0, MOST_TAPER) || !isWithin(stock, 0, MOST_STOCK)) {
            return OUTSIDE_RANGE;
        }
        return kinds.isFull() ? NO_ROOM : kinds.add(taper, stock);
    }

    public int more(int kind, int n) {
        if (!kinds.has(kind)) {
            return UNKNOWN_NUMBER;
        }
        return isWithin(n, 1, MOST_STOCK) ? kinds.enlarge(kind, n) : OUTSIDE_RANGE;
    }

    public int line(int ring, int x, int y) throws ArrayIndexOutOfBoundsException {
        needRing(ring);
        if (!isWithin(x, -MOST_LINE, MOST_LINE) || !isWithin(y, -MOST_LINE, MOST_LINE)) {
            return OUTSIDE_RANGE;
        }
        if (tunnel.stateAt(ring) == BUILT) {
            return WRONG_STATE;
        }
        tunnel.setPoint(ring, x, y);
        return 1;
    }

    public int apart(int positions) {
        if (!isWithin(positions, 1, Keys.POSITIONS)) {
            return OUTSIDE_RANGE;
        }
        keys.jointsApart = positions;
        return 1;
    }

    public boolean allow(int position, boolean may) {
        return keys.permit(position, may);
    }

    public int look(int rings) {
        if (!isWithin(rings, 1, MOST_LOOK)) {
            return OUTSIDE_RANGE;
        }
        ahead = rings;
        return 1;
    }

    public int run() {
        plans++;
        openPlanned();
        boolean found = true;
        for (int ring = tunnel.built; found && ring < tunnel.rings; ring++) {
            found = planRing(ring);
        }
        return tunnel.planned;
    }

    public int build(int n) {
        if (n < 1) {
            return OUTSIDE_RANGE;
        }
        if (n > tunnel.planned) {
            return WRONG_STATE;
        }
        tunnel.planned -= n;
        tunnel.built += n;
        return tunnel.built;
    }

    public int survey(int ring, int dx, int dy) throws ArrayIndexOutOfBoundsException {
        needRing(ring);
        if (!isWithin(dx, -MOST_SURVEY, MOST_SURVEY) || !isWithin(dy, -MOST_SURVEY, MOST_SURVEY)) {
            return OUTSIDE_RANGE;
        }
        if (tunnel.stateAt(ring) != BUILT) {
            return WRONG_STATE;
        }
        openPlanned();
        tunnel.shiftBuilt(ring, dx, dy);
        return tunnel.built - ring;
    }

    public int replace(int ring, int kind) throws ArrayIndexOutOfBoundsException {
        needRing(ring);
        if (!kinds.has(kind)) {
            return UNKNOWN_NUMBER;
        }
        if (tunnel.stateAt(ring) != PLANNED || tunnel.kindAt[ring] == kind || kinds.unused(kind) < 1) {
            return WRONG_STATE;
        }
        kinds.giveBack(tunnel.kindAt[ring]);
        kinds.take(kind);
        tunnel.kindAt[ring] = kind;
        layAgainFrom(ring);
        return 1;
    }

    public int kindOf(int ring) {
        return tunnel.stands(ring) ? tunnel.kindAt[ring] : NONE;
    }

    public int turnOf(int ring) {
        return tunnel.stands(ring) ? tunnel.turnAt[ring] : NONE;
    }

    public int state(int ring) {
        return tunnel.has(ring) ? tunnel.stateAt(ring) : NONE;
    }

    public long place(int ring, int axis) throws ArrayIndexOutOfBoundsException {
        needStanding(ring);
        switch (axis) {
            case 0:
                return tunnel.x[ring + 1];
            case 1:
                return tunnel.y[ring + 1];
            case 2:
                return tunnel.dx[ring + 1];
            case 3:
                return tunnel.dy[ring + 1];
            default:
                throw new ArrayIndexOutOfBoundsException("no such axis");
        }
    }

    public long off(int ring) throws ArrayIndexOutOfBoundsException {
        needStanding(ring);
        return tunnel.offAt(ring);
    }

    public long sum() {
        long total = 0;
        for (int ring = 0; ring < tunnel.standing(); ring++) {
            total += tunnel.offAt(ring);
        }
        return total;
    }

    public int stroke(int ring, int position) {
        if (!tunnel.stands(ring) || !Keys.isPosition(position)) {
            return 0;
        }
        int taper = kinds.taper[tunnel.kindAt[ring]];
        return Math.floorDiv(taper * Keys.c(position - tunnel.turnAt[ring]), Keys.C_IN_FULL);
    }

    public int left(int kind) {
        return kinds.has(kind) ? kinds.unused(kind) : UNKNOWN_NUMBER;
    }

    public int list(int kind, int k) {
        int before = 0;
        for (int ring = 0; ring < tunnel.standing(); ring++) {
            if (tunnel.kindAt[ring] == kind) {
                if (before == k) {
                    return ring;
                }
                before++;
            }
        }
        return NONE;
    }

    public int count(int what) throws ArrayIndexOutOfBoundsException {
        switch (what) {
            case 0:
                return tunnel.rings;
            case 1:
                return tunnel.built;
            case 2:
                return tunnel.planned;
            case 3:
                return kinds.number;
            case 4:
                return keys.jointsApart;
            case 5:
                return ahead;
            case 6:
                return keys.permitted;
            case 7:
                return plans;
            default:
                throw new ArrayIndexOutOfBoundsException("no such count");
        }
    }

    private static boolean isWithin(int value, int least, int most) {
        return value >= least && value <= most;
    }

    // What the document asks to be thrown is thrown by a statement: no index of a row may ever be a wrong one.
    private void needRing(int ring) {
        if (!tunnel.has(ring)) {
            throw new ArrayIndexOutOfBoundsException("no such ring");
        }
    }

    private void needStanding(int ring) {
        if (!tunnel.stands(ring)) {
            throw new ArrayIndexOutOfBoundsException("no such ring, or it is open");
        }
    }

    private void openPlanned() {
        for (int ring = tunnel.built; ring < tunnel.standing(); ring++) {
            kinds.giveBack(tunnel.kindAt[ring]);
        }
        tunnel.planned = 0;
    }

    private void layAgainFrom(int first) {
        for (int ring = first; ring < tunnel.standing(); ring++) {
            int kind = tunnel.kindAt[ring];
            tunnel.lay(ring, kind, kinds.taper[kind], tunnel.turnAt[ring]);
        }
    }

    private boolean planRing(int ring) {
        for (int depth = Math.min(ahead, tunnel.rings - ring); depth > 0; depth--) {
            if (leastSum(ring, depth) != NO_WAY) {
                tunnel.lay(ring, chosenKind, kinds.taper[chosenKind], chosenTurn);
                kinds.take(chosenKind);
                tunnel.planned++;
                return true;
            }
        }
        return false;
    }

    /**
     * Lays so many rings from an open one on in all the ways in which they may stand. The ways come by kind,
     * then by position, so that the first of those with the least sum is the one to choose.
     */
    private long leastSum(int ring, int depth) {
        long least = NO_WAY;
        int leastKind = NONE;
        int leastTurn = NONE;
        int turnBefore = tunnel.turnBefore(ring);
        for (int kind = 0; kind < kinds.number; kind++) {
            if (kinds.unused(kind) < 1) {
                continue;
            }
            for (int turn = 0; turn < Keys.POSITIONS; turn++) {
                if (!keys.fits(turn, turnBefore)) {
                    continue;
                }
                long sum = sumWith(ring, depth, kind, turn, least);
                if (sum < least) {
                    least = sum;
                    leastKind = kind;
                    leastTurn = turn;
                }
            }
        }
        // Deeper rings write these too, but the one that was asked for is the last to do so.
        chosenKind = leastKind;
        chosenTurn = leastTurn;
        return least;
    }

    /** The least sum with the first ring laid like this; NO_WAY also where it cannot be below the limit. */
    private long sumWith(int ring, int depth, int kind, int turn, long limit) {
        tunnel.lay(ring, kind, kinds.taper[kind], turn);
        long own = tunnel.offAt(ring);
        if (own >= limit) {
            return NO_WAY;
        }
        if (depth < 2) {
            return own;
        }
        kinds.take(kind);
        long others = leastSum(ring + 1, depth - 1);
        kinds.giveBack(kind);
        return others == NO_WAY ? NO_WAY : own + others;
    }

    /** The kinds of rings, and how many of each there are and are used. */
    private static final class Kinds {
        private static final int MOST = 4;

        private final int[] taper = new int[MOST];
        private final int[] stock = new int[MOST];
        private final int[] used = new int[MOST];
        private int number = 0;

        private boolean has(int kind) {
            return kind >= 0 && kind < number;
        }

        private boolean isFull() {
            return number >= MOST;
        }

        private int add(int newTaper, int newStock) {
            taper[number] = newTaper;
            stock[number] = newStock;
            number++;
            return number - 1;
        }

        private int enlarge(int kind, int n) {
            stock[kind] += n;
            return stock[kind];
        }

        private int unused(int kind) {
            return stock[kind] - used[kind];
        }

        private void take(int kind) {
            used[kind]++;
        }

        private void giveBack(int kind) {
            used[kind]--;
        }
    }

    /** Where keys may be, by themselves and behind the key of the ring before. */
    private static final class Keys {
        private static final int POSITIONS = 16;
        private static final int QUARTER = 4;
        private static final int C_IN_FULL = 64;
        private static final int[] C = {64, 59, 45, 24, 0, -24, -45, -59, -64, -59, -45, -24, 0, 24, 45, 59};

        private final boolean[] forbidden = new boolean[POSITIONS];
        private int permitted = POSITIONS;
        private int jointsApart = POSITIONS;

        private static boolean isPosition(int position) {
            return position >= 0 && position < POSITIONS;
        }

        // The mask takes k round the ring, also from below 0.
        private static int c(int k) {
            return C[k & (POSITIONS - 1)];
        }

        private static int s(int k) {
            return C[(k - QUARTER) & (POSITIONS - 1)];
        }

        private boolean permit(int position, boolean may) {
            if (!isPosition(position)) {
                return false;
            }
            boolean mayNow = !forbidden[position];
            if (may == mayNow) {
                return false;
            }
            forbidden[position] = !may;
            permitted += may ? 1 : -1;
            return true;
        }

        private boolean fits(int turn, int turnBefore) {
            return !forbidden[turn] && (turnBefore == NONE || (turn - turnBefore) % jointsApart != 0);
        }
    }

    /** The rings in their order: first those built, then those planned, then the open ones; and their line. */
    private static final class Tunnel {
        private final int rings;
        private int built = 0;
        private int planned = 0;
        private final int[] kindAt;
        private final int[] turnAt;
        private final long[] lineX;
        private final long[] lineY;
        // Place and direction before each ring, so that those behind a ring stand at its number plus 1
        // and ring 0 needs no rule of its own.
        private final long[] x;
        private final long[] y;
        private final long[] dx;
        private final long[] dy;

        private Tunnel(int rings) {
            this.rings = rings;
            kindAt = new int[rings];
            turnAt = new int[rings];
            lineX = new long[rings];
            lineY = new long[rings];
            x = new long[rings + 1];
            y = new long[rings + 1];
            dx = new long[rings + 1];
            dy = new long[rings + 1];
        }

        private boolean has(int ring) {
            return ring >= 0 && ring < rings;
        }

        private int standing() {
            return built + planned;
        }

        private boolean stands(int ring) {
            return ring >= 0 && ring < standing();
        }

        private int stateAt(int ring) {
            if (ring < built) {
                return BUILT;
            }
            return ring < standing() ? PLANNED : OPEN;
        }

        private int turnBefore(int ring) {
            return ring > 0 ? turnAt[ring - 1] : NONE;
        }

        private void setPoint(int ring, int pointX, int pointY) {
            lineX[ring] = pointX;
            lineY[ring] = pointY;
        }

        private void lay(int ring, int kind, int taper, int turn) {
            kindAt[ring] = kind;
            turnAt[ring] = turn;
            dx[ring + 1] = dx[ring] + taper * Keys.c(turn);
            dy[ring + 1] = dy[ring] + taper * Keys.s(turn);
            x[ring + 1] = x[ring] + dx[ring] + dx[ring + 1];
            y[ring + 1] = y[ring] + dy[ring] + dy[ring + 1];
        }

        private void shiftBuilt(int first, int byX, int byY) {
            for (int ring = first; ring < built; ring++) {
                x[ring + 1] += byX;
                y[ring + 1] += byY;
            }
        }

        private long offAt(int ring) {
            long awayX = x[ring + 1] - lineX[ring];
            long awayY = y[ring + 1] - lineY[ring];
            return awayX * awayX + awayY * awayY;
        }
    }
}
