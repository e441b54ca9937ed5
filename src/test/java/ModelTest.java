import java.util.ArrayList;
import java.util.List;
import java.util.Random;

/**
 * Many runs of calls by chance (always the same ones), each answer held against a model that keeps no places
 * and no numbers of rings left: it works everything out anew from the document's words at every question.
 */
public final class ModelTest {
    private static final int OBJECTS = 400;
    private static final int MOST_CALLS = 512;
    private static final long THROWS = Long.MIN_VALUE;

    private static int wrong = 0;

    public static void main(String[] args) {
        for (int object = 0; object < OBJECTS; object++) {
            new Run(object).go();
        }
        System.out.println(wrong == 0 ? "the model answers the same" : wrong + " answers are not the model's");
        if (wrong != 0) {
            System.exit(1);
        }
    }

    private record Way(int kind, int turn) { }

    private static final class Model {
        static final int[] C = {64, 59, 45, 24, 0, -24, -45, -59, -64, -59, -45, -24, 0, 24, 45, 59};

        final int rings;
        final int[][] points;
        final int[][] measured;
        final List<int[]> kinds = new ArrayList<>();
        final boolean[] forbidden = new boolean[16];
        final List<Way> standing = new ArrayList<>();
        int built = 0;
        int apart = 16;
        int look = 1;
        int plans = 0;

        Model(int asked) {
            rings = asked < 1 ? 1 : asked > 24 ? 24 : asked;
            points = new int[rings][2];
            measured = new int[rings][2];
        }

        boolean isRing(int ring) {
            return ring >= 0 && ring < rings;
        }

        boolean isKind(int kind) {
            return kind >= 0 && kind < kinds.size();
        }

        int state(int ring) {
            return !isRing(ring) ? -1 : ring < built ? 2 : ring < standing.size() ? 1 : 0;
        }

        long[] placeBehind(List<Way> ways, int ring) {
            long[] at = new long[4];
            for (int i = 0; i <= ring; i++) {
                int taper = kinds.get(ways.get(i).kind())[0];
                int turn = ways.get(i).turn();
                long[] turned = {at[2] + taper * C[turn], at[3] + taper * C[(turn + 12) % 16]};
                at[0] += at[2] + turned[0] + measured[i][0];
                at[1] += at[3] + turned[1] + measured[i][1];
                at[2] = turned[0];
                at[3] = turned[1];
            }
            return at;
        }

        long off(List<Way> ways, int ring) {
            long[] at = placeBehind(ways, ring);
            long x = at[0] - points[ring][0];
            long y = at[1] - points[ring][1];
            return x * x + y * y;
        }

        int left(List<Way> ways, int kind) {
            int n = kinds.get(kind)[1];
            for (Way way : ways) {
                n -= way.kind() == kind ? 1 : 0;
            }
            return n;
        }

        List<Way> mayStandBehind(List<Way> ways) {
            List<Way> found = new ArrayList<>();
            for (int kind = 0; kind < kinds.size(); kind++) {
                for (int turn = 0; turn < 16; turn++) {
                    boolean inLine = !ways.isEmpty()
                        && Math.abs(turn - ways.get(ways.size() - 1).turn()) % apart == 0;
                    if (!forbidden[turn] && left(ways, kind) > 0 && !inLine) {
                        found.add(new Way(kind, turn));
                    }
                }
            }
            return found;
        }

        List<List<Way>> allWays(List<Way> ways, int n) {
            List<List<Way>> found = new ArrayList<>();
            if (n == 0) {
                found.add(ways);
                return found;
            }
            for (Way way : mayStandBehind(ways)) {
                List<Way> longer = new ArrayList<>(ways);
                longer.add(way);
                found.addAll(allWays(longer, n - 1));
            }
            return found;
        }

        boolean better(long sum, List<Way> a, long bestSum, List<Way> b, int from) {
            if (b == null || sum != bestSum) {
                return b == null || sum < bestSum;
            }
            for (int i = from; i < a.size(); i++) {
                if (a.get(i).kind() != b.get(i).kind()) {
                    return a.get(i).kind() < b.get(i).kind();
                }
                if (a.get(i).turn() != b.get(i).turn()) {
                    return a.get(i).turn() < b.get(i).turn();
                }
            }
            return false;
        }

        Way bestNext() {
            int from = standing.size();
            for (int n = Math.min(look, rings - from); n > 0; n--) {
                List<Way> best = null;
                long bestSum = 0;
                for (List<Way> ways : allWays(standing, n)) {
                    long sum = 0;
                    for (int i = from; i < ways.size(); i++) {
                        sum += off(ways, i);
                    }
                    if (better(sum, ways, bestSum, best, from)) {
                        best = ways;
                        bestSum = sum;
                    }
                }
                if (best != null) {
                    return best.get(from);
                }
            }
            return null;
        }

        void open() {
            while (standing.size() > built) {
                standing.remove(standing.size() - 1);
            }
        }

        long run() {
            plans++;
            open();
            Way next = bestNext();
            while (next != null) {
                standing.add(next);
                next = bestNext();
            }
            return standing.size() - built;
        }

        long kind(int taper, int stock) {
            if (taper < 0 || taper > 200 || stock < 0 || stock > 99) {
                return -2;
            }
            if (kinds.size() == 4) {
                return -4;
            }
            kinds.add(new int[] {taper, stock});
            return kinds.size() - 1;
        }

        long more(int kind, int n) {
            if (!isKind(kind)) {
                return -1;
            }
            if (n < 1 || n > 99) {
                return -2;
            }
            kinds.get(kind)[1] += n;
            return kinds.get(kind)[1];
        }

        long line(int ring, int x, int y) {
            if (!isRing(ring)) {
                return THROWS;
            }
            if (Math.abs(x) > 10000000 || Math.abs(y) > 10000000) {
                return -2;
            }
            if (state(ring) == 2) {
                return -3;
            }
            points[ring] = new int[] {x, y};
            return 1;
        }

        long allow(int position, boolean may) {
            if (position < 0 || position > 15 || forbidden[position] == !may) {
                return 0;
            }
            forbidden[position] = !may;
            return 1;
        }

        long build(int n) {
            if (n < 1) {
                return -2;
            }
            if (n > standing.size() - built) {
                return -3;
            }
            built += n;
            return built;
        }

        long survey(int ring, int dx, int dy) {
            if (!isRing(ring)) {
                return THROWS;
            }
            if (Math.abs(dx) > 100000 || Math.abs(dy) > 100000) {
                return -2;
            }
            if (state(ring) != 2) {
                return -3;
            }
            open();
            measured[ring][0] += dx;
            measured[ring][1] += dy;
            return built - ring;
        }

        long replace(int ring, int kind) {
            if (!isRing(ring)) {
                return THROWS;
            }
            if (!isKind(kind)) {
                return -1;
            }
            if (state(ring) != 1 || standing.get(ring).kind() == kind || left(standing, kind) < 1) {
                return -3;
            }
            standing.set(ring, new Way(kind, standing.get(ring).turn()));
            return 1;
        }

        long stroke(int ring, int position) {
            if (state(ring) < 1 || position < 0 || position > 15) {
                return 0;
            }
            Way way = standing.get(ring);
            int longer = kinds.get(way.kind())[0] * C[(position - way.turn() + 16) % 16];
            return (long) Math.floor(longer / 64.0);
        }

        long sum() {
            long total = 0;
            for (int ring = 0; ring < standing.size(); ring++) {
                total += off(standing, ring);
            }
            return total;
        }

        long list(int kind, int k) {
            List<Integer> found = new ArrayList<>();
            for (int ring = 0; ring < standing.size(); ring++) {
                if (standing.get(ring).kind() == kind) {
                    found.add(ring);
                }
            }
            return k >= 0 && k < found.size() ? found.get(k) : -1;
        }

        long count(int what) {
            int permitted = 0;
            for (boolean no : forbidden) {
                permitted += no ? 0 : 1;
            }
            int[] counts = {rings, built, standing.size() - built, kinds.size(), apart, look, permitted, plans};
            return what < 0 || what > 7 ? THROWS : counts[what];
        }
    }

    private static final class Run {
        private final int number;
        private final Random chance;
        private final RingPieces x;
        private final Model model;
        private final boolean wild;
        private int calls = 0;

        Run(int number) {
            this.number = number;
            chance = new Random(1000L + number);
            int rings = number % 10 == 0 ? 24 : chance.nextInt(10) - 1;
            x = new RingPieces(rings);
            model = new Model(rings);
            wild = chance.nextInt(3) == 0;
        }

        void go() {
            start();
            // What is kept back suffices to look at every ring at the end.
            int end = MOST_CALLS - 16 * model.rings - 40;
            while (calls < end) {
                change();
                question();
            }
            look();
            if (calls > MOST_CALLS) {
                due("calls", MOST_CALLS, calls);
            }
        }

        private void start() {
            int kinds = chance.nextInt(4) + 1;
            for (int kind = 0; kind < kinds; kind++) {
                addKind();
            }
            long lx = 0;
            long ly = 0;
            int step = chance.nextInt(12000) + 1;
            for (int ring = 0; ring < model.rings; ring++) {
                lx += chance.nextInt(step * (ring + 1)) - step / 4;
                ly += chance.nextInt(step * (ring + 1)) - step / 2;
                point(ring, (int) lx, (int) ly);
            }
        }

        private int near(int least, int most) {
            return least - 2 + chance.nextInt(most - least + 5);
        }

        private int edged(int most) {
            switch (chance.nextInt(8)) {
                case 0:
                    return most;
                case 1:
                    return -most;
                case 2:
                    return most + 1;
                case 3:
                    return -most - 1;
                default:
                    return chance.nextInt(2 * most + 1) - most;
            }
        }

        private void due(String call, long want, long got) {
            calls++;
            if (want != got) {
                wrong++;
                if (wrong < 20) {
                    System.out.println("run " + number + ", call " + calls + ": " + call + " answered " + got
                        + ", the model " + want);
                }
            }
        }

        private void addKind() {
            int taper = chance.nextInt(3) == 0 ? 0 : near(0, 200);
            int stock = chance.nextInt(3) == 0 ? chance.nextInt(4) : near(0, 99);
            due("kind", model.kind(taper, stock), x.kind(taper, stock));
        }

        private void point(int ring, int px, int py) {
            long got;
            try {
                got = x.line(ring, px, py);
            } catch (ArrayIndexOutOfBoundsException e) {
                got = THROWS;
            }
            due("line", model.line(ring, px, py), got);
        }

        private void change() {
            int ring = near(0, model.rings - 1);
            switch (chance.nextInt(wild ? 14 : 11)) {
                case 0:
                    addKind();
                    break;
                case 1:
                    int kind = near(0, 3);
                    int n = chance.nextInt(2) == 0 ? near(0, 3) : near(1, 99);
                    due("more", model.more(kind, n), x.more(kind, n));
                    break;
                case 2:
                    int wide = chance.nextBoolean() ? 10000000 : 50000;
                    point(ring, edged(wide), edged(wide));
                    break;
                case 3:
                    int apart = near(1, 16);
                    if (apart > 1 || chance.nextInt(8) == 0) {
                        long want = apart < 1 || apart > 16 ? -2 : 1;
                        model.apart = want == 1 ? apart : model.apart;
                        due("apart", want, x.apart(apart));
                    }
                    break;
                case 4:
                    int ahead = near(1, 2);
                    long want = ahead < 1 || ahead > 2 ? -2 : 1;
                    model.look = want == 1 ? ahead : model.look;
                    due("look", want, x.look(ahead));
                    break;
                case 5:
                case 6:
                    if (chance.nextInt(model.rings) < 6) {
                        due("run", model.run(), x.run());
                    }
                    break;
                case 7:
                    if (chance.nextInt(4) == 0) {
                        int more = near(1, 2);
                        due("build", model.build(more), x.build(more));
                    }
                    break;
                case 8:
                    measure(ring);
                    break;
                case 9:
                case 10:
                    swap(ring, near(0, 3));
                    break;
                default:
                    int position = near(0, 15);
                    boolean may = chance.nextInt(3) > 0;
                    due("allow", model.allow(position, may), x.allow(position, may) ? 1 : 0);
                    break;
            }
        }

        private void measure(int ring) {
            int dx = edged(chance.nextBoolean() ? 100000 : 500);
            int dy = edged(chance.nextBoolean() ? 100000 : 500);
            long got;
            try {
                got = x.survey(ring, dx, dy);
            } catch (ArrayIndexOutOfBoundsException e) {
                got = THROWS;
            }
            due("survey", model.survey(ring, dx, dy), got);
        }

        private void swap(int ring, int kind) {
            long got;
            try {
                got = x.replace(ring, kind);
            } catch (ArrayIndexOutOfBoundsException e) {
                got = THROWS;
            }
            due("replace", model.replace(ring, kind), got);
        }

        private void question() {
            int ring = near(0, model.rings - 1);
            switch (chance.nextInt(6)) {
                case 0:
                    askRing(ring);
                    break;
                case 1:
                    askPlace(ring, near(0, 3));
                    break;
                case 2:
                    due("sum", model.sum(), x.sum());
                    break;
                case 3:
                    int position = near(0, 15);
                    due("stroke", model.stroke(ring, position), x.stroke(ring, position));
                    break;
                case 4:
                    askKind(near(0, 3), near(0, 4));
                    break;
                default:
                    askCount(near(0, 7));
                    break;
            }
        }

        private void askRing(int ring) {
            boolean stands = model.state(ring) > 0;
            due("state", model.state(ring), x.state(ring));
            due("kindOf", stands ? model.standing.get(ring).kind() : -1, x.kindOf(ring));
            due("turnOf", stands ? model.standing.get(ring).turn() : -1, x.turnOf(ring));
            long got;
            try {
                got = x.off(ring);
            } catch (ArrayIndexOutOfBoundsException e) {
                got = THROWS;
            }
            due("off", stands ? model.off(model.standing, ring) : THROWS, got);
        }

        private void askPlace(int ring, int axis) {
            boolean there = model.state(ring) > 0 && axis >= 0 && axis < 4;
            long got;
            try {
                got = x.place(ring, axis);
            } catch (ArrayIndexOutOfBoundsException e) {
                got = THROWS;
            }
            due("place", there ? model.placeBehind(model.standing, ring)[axis] : THROWS, got);
        }

        private void askKind(int kind, int k) {
            due("left", model.isKind(kind) ? model.left(model.standing, kind) : -1, x.left(kind));
            due("list", model.list(kind, k), x.list(kind, k));
        }

        private void askCount(int what) {
            long got;
            try {
                got = x.count(what);
            } catch (ArrayIndexOutOfBoundsException e) {
                got = THROWS;
            }
            due("count", model.count(what), got);
        }

        private void look() {
            for (int ring = 0; ring < model.rings; ring++) {
                askRing(ring);
                for (int axis = 0; axis < 4; axis++) {
                    askPlace(ring, axis);
                }
            }
            for (int kind = -1; kind < 5; kind++) {
                askKind(kind, 0);
            }
            for (int what = -1; what < 9; what++) {
                askCount(what);
            }
            due("sum", model.sum(), x.sum());
        }
    }
}
