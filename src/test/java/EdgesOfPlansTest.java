/** The edges that the document names before its promises: what its terms mean, and how a plan is made. */
public final class EdgesOfPlansTest extends Edges {
    public static void main(String[] args) {
        fiveHundredAndTwelveCalls();
        positionsGoRound();
        directionAtFirst();
        placeAtFirst();
        lineAtFirst();
        builtPlannedOpen();
        allPositionsAtFirst();
        oneLeft();
        jointsInLine();
        apartAtFirst();
        noneBeforeRingZero();
        refusalsInOrder();
        planFromTheFirstNotBuilt();
        planOpensFirst();
        lookAtFirst();
        fewerAtTheEnd();
        oneBehindTheOther();
        leastSumOfBoth();
        sameSumLesserKind();
        sameSumLesserPosition();
        sameSumSecondRing();
        noWayButFewer();
        noneMayStand();
        end();
    }

    private static void fiveHundredAndTwelveCalls() {
        of("What it is", "An object is used for at most 512 calls after it has been made");
        RingPieces x = new RingPieces(24);
        for (int kind = 0; kind < 4; kind++) {
            x.kind(200 - kind, 99);
        }
        x.look(2);
        for (int ring = 0; ring < 24; ring++) {
            x.line(ring, 10000000, -10000000);
        }
        for (int calls = 29; calls < 510; calls++) {
            due("run(), call " + (calls + 1), 24, x.run());
        }
        due("the sum does not wrap, call 511", true, x.sum() > 0);
        due("count(7), call 512", 481, x.count(7));
        RingPieces far = even(1, 1);
        far.line(0, -10000000, -10000000);
        far.run();
        far.build(1);
        for (int calls = 4; calls < 510; calls++) {
            far.survey(0, 100000, 100000);
        }
        due("x measured 506 times, call 511", 50600000, far.place(0, 0));
        due("off measured 506 times, call 512", 2L * 60600000L * 60600000L, far.off(0));
        RingPieces stocked = even(1, 99);
        for (int calls = 1; calls < 511; calls++) {
            stocked.more(0, 99);
        }
        due("more(0, 99), call 512", 99 + 511 * 99, stocked.more(0, 99));
    }

    private static void positionsGoRound() {
        of("Terms", "s(k) is c(k - 4), k going round");
        int[] c = {64, 59, 45, 24, 0, -24, -45, -59, -64, -59, -45, -24, 0, 24, 45, 59};
        int[] s = {0, 24, 45, 59, 64, 59, 45, 24, 0, -24, -45, -59, -64, -59, -45, -24};
        for (int p = 0; p < 16; p++) {
            RingPieces x = oneRing(1, p);
            due("turnOf(0)", p, x.turnOf(0));
            due("dx behind a key at " + p, c[p], x.place(0, 2));
            due("dy behind a key at " + p, s[p], x.place(0, 3));
        }
    }

    private static void directionAtFirst() {
        of("Terms", "the DIRECTION (dx, dy), (0, 0) at first");
        RingPieces x = oneRing(10, 1);
        due("dx behind ring 0", 590, x.place(0, 2));
        due("dy behind ring 0", 240, x.place(0, 3));
    }

    private static void placeAtFirst() {
        of("Terms", "the PLACE (x, y), (0, 0) at first, moves by the DIRECTION before the ring and the one behind it");
        RingPieces x = oneRing(10, 1);
        due("x behind ring 0", 590, x.place(0, 0));
        due("y behind ring 0", 240, x.place(0, 1));
        RingPieces y = planned();
        due("x behind ring 1", 640 + 640 + 640, y.place(1, 0));
        due("y behind ring 1", 0 + 0 + 640, y.place(1, 1));
        due("x behind ring 2", 1920 + 640 + 0, y.place(2, 0));
        due("y behind ring 2", 640 + 640 + 640, y.place(2, 1));
    }

    private static void lineAtFirst() {
        of("Terms", "THE LINE has a point for each, (0, 0) at first.");
        RingPieces x = oneRing(10, 1);
        due("off(0)", 590L * 590L + 240L * 240L, x.off(0));
        RingPieces y = even(24, 24);
        y.run();
        due("sum() of 24 rings that do not bend", 0, y.sum());
    }

    private static void builtPlannedOpen() {
        of("Terms", "first some are BUILT, then some PLANNED, the others are OPEN");
        for (int built = 0; built <= 3; built++) {
            for (int planned = 0; built + planned <= 3; planned++) {
                RingPieces x = even(3, built + planned);
                x.run();
                if (built > 0) {
                    x.build(built);
                }
                for (int ring = 0; ring < 3; ring++) {
                    int want = ring < built ? 2 : ring < built + planned ? 1 : 0;
                    due("state(" + ring + ") of " + built + " and " + planned, want, x.state(ring));
                }
            }
        }
    }

    private static void allPositionsAtFirst() {
        of("Terms", "its position is allowed for keys (all are at first)");
        int[] c = {64, 59, 45, 24, 0, -24, -45, -59, -64, -59, -45, -24, 0, 24, 45, 59};
        for (int p = 0; p < 16; p++) {
            RingPieces x = new RingPieces(1);
            x.kind(10, 1);
            x.line(0, 10 * c[p], 10 * c[(p + 12) % 16]);
            x.run();
            due("turnOf(0) towards " + p, p, x.turnOf(0));
            x.allow(p, false);
            x.run();
            due("another, as " + p + " is forbidden", true, x.turnOf(0) >= 0 && x.turnOf(0) != p);
        }
    }

    private static void oneLeft() {
        of("Terms", "its kind has one left (of its stock, less those built and planned)");
        for (int stock = 0; stock <= 4; stock++) {
            RingPieces x = even(3, stock);
            due("run() with " + stock + " in stock", Math.min(3, stock), x.run());
            due("left(0) of " + stock, Math.max(0, stock - 3), x.left(0));
        }
        RingPieces y = even(4, 3);
        y.run();
        y.build(2);
        due("run() with 3 in stock and 2 of them built", 1, y.run());
        y.build(1);
        due("run() with 3 in stock and all of them built", 0, y.run());
        y.more(0, 1);
        due("run() with one more", 1, y.run());
        RingPieces z = even(2, 1);
        z.kind(10, 1);
        z.look(2);
        due("run(), two kinds with one each, looking ahead", 2, z.run());
        due("kindOf(0)", 1 - z.kindOf(1), z.kindOf(0));
    }

    /** Ring 0 has its key at one position and is BUILT; ring 1 can only have its key at the other. */
    private static int behind(int apart, int first, int second) {
        RingPieces x = even(2, 2);
        onlyPositions(x, first);
        x.run();
        x.build(1);
        onlyPositions(x, second);
        x.apart(apart);
        return x.run();
    }

    private static void jointsInLine() {
        of("Terms", "the difference of both positions is no multiple of APART");
        for (int apart = 1; apart <= 16; apart++) {
            for (int first = 0; first < 16; first++) {
                for (int second = 0; second < 16; second++) {
                    boolean multiple = false;
                    for (int times = -15; times <= 15; times++) {
                        multiple |= second - first == times * apart;
                    }
                    due("run() with APART " + apart + ", " + second + " behind " + first, multiple ? 0 : 1,
                        behind(apart, first, second));
                }
            }
        }
    }

    private static void apartAtFirst() {
        of("Terms", "APART, 16 at first");
        due("count(4)", 16, empty().count(4));
        for (int first = 0; first < 16; first++) {
            RingPieces x = even(2, 2);
            onlyPositions(x, first);
            due("run() with the position " + first + " alone: 0 is a multiple of 16", 1, x.run());
            x.allow((first + 15) % 16, true);
            due("run() with the one before it too", 2, x.run());
        }
    }

    private static void noneBeforeRingZero() {
        of("Terms", "(Ring 0 has none before.)");
        for (int p = 0; p < 16; p++) {
            for (int look = 1; look <= 2; look++) {
                RingPieces x = even(2, 2);
                onlyPositions(x, p);
                x.apart(1);
                x.look(look);
                due("run() with the position " + p + " alone, and all joints in line", 1, x.run());
                due("turnOf(0)", p, x.turnOf(0));
            }
        }
    }

    private static void refusalsInOrder() {
        of("Terms", "REFUSALS change nothing and answer, the first that fits: -1 an unknown number, -2 outside a "
            + "range, -3 not in this state, -4 no room.");
        refused("-2 before -4: kind(201, 1)", -2, Edges::full, x -> x.kind(201, 1));
        refused("-2 before -4: kind(1, 100)", -2, Edges::full, x -> x.kind(1, 100));
        refused("-1 before -2: more(3, 0)", -1, Edges::site, x -> x.more(3, 0));
        refused("-1 before -2: more(-1, 100)", -1, Edges::site, x -> x.more(-1, 100));
        refused("-2 before -3: line(0, 10000001, 0)", -2, Edges::site, x -> x.line(0, 10000001, 0));
        refused("-2 before -3: build(0)", -2, Edges::empty, x -> x.build(0));
        refused("-2 before -3: survey(1, 0, 100001)", -2, Edges::site, x -> x.survey(1, 0, 100001));
        refused("-1 before -3: replace(0, 3)", -1, Edges::site, x -> x.replace(0, 3));
        refused("-1 before -3: replace(3, -1)", -1, Edges::site, x -> x.replace(3, -1));
    }

    private static void planFromTheFirstNotBuilt() {
        of("Terms, a plan", "from the first that is not BUILT on");
        RingPieces x = site();
        onlyPositions(x, 3);
        x.more(0, 9);
        due("run() behind the one built", 1, x.run());
        due("turnOf(0), built, though no more allowed", 0, x.turnOf(0));
        due("turnOf(1)", 3, x.turnOf(1));
        RingPieces y = even(3, 9);
        y.run();
        y.build(3);
        due("run() when all are built", 0, y.run());
        due("count(1)", 3, y.count(1));
        RingPieces z = even(2, 9);
        onlyPositions(z, 0);
        z.run();
        z.build(1);
        due("run(), in line with the one built", 0, z.run());
    }

    private static void planOpensFirst() {
        of("Terms, a plan", "(what was PLANNED is OPEN again first)");
        RingPieces x = even(3, 3);
        due("run()", 3, x.run());
        due("run() again with none left", 3, x.run());
        due("left(0)", 0, x.left(0));
        onlyPositions(x);
        due("run() with no position", 0, x.run());
        due("state(0)", 0, x.state(0));
        due("left(0)", 3, x.left(0));
        RingPieces y = even(3, 2);
        y.run();
        y.build(1);
        due("run() with one left behind one built", 1, y.run());
        y.apart(1);
        due("run() with all joints in line", 0, y.run());
        due("state(1)", 0, y.state(1));
        due("left(0)", 1, y.left(0));
    }

    private static void lookAtFirst() {
        of("Terms, a plan", "as many as LOOK says (1 or 2, 1 at first; fewer at the end)");
        RingPieces x = dearFirstStep();
        due("count(5)", 1, x.count(5));
        x.run();
        due("kindOf(0), one by one", 0, x.kindOf(0));
        due("sum()", 1280L * 1280L, x.sum());
        x.look(2);
        x.run();
        due("kindOf(0), two together", 1, x.kindOf(0));
        due("sum()", 640L * 640L, x.sum());
        x.look(1);
        x.run();
        due("kindOf(0), one by one again", 0, x.kindOf(0));
    }

    private static void fewerAtTheEnd() {
        of("Terms, a plan", "fewer at the end");
        RingPieces x = new RingPieces(1);
        x.kind(10, 9);
        x.line(0, -640, 0);
        x.look(2);
        due("run() of the only ring", 1, x.run());
        due("turnOf(0)", 8, x.turnOf(0));
        RingPieces y = new RingPieces(24);
        y.kind(10, 99);
        y.look(2);
        due("run() of 24 rings", 24, y.run());
        y.build(23);
        // Just where the last ring comes to with its key at 4, or at 12 if the one before has 4.
        int key = y.turnOf(22) == 4 ? 12 : 4;
        long x23 = y.place(22, 0) + 2 * y.place(22, 2);
        long y23 = y.place(22, 1) + 2 * y.place(22, 3) + (key == 4 ? 640 : -640);
        y.line(23, (int) x23, (int) y23);
        due("run() of the last ring behind 23", 1, y.run());
        due("turnOf(23)", key, y.turnOf(23));
        due("off(23)", 0, y.off(23));
    }

    /** Only keys at 0 and 8, so that all is on one axis. */
    private static RingPieces oneAxis(int taper0, int taper1, int point0, int point1) {
        RingPieces x = new RingPieces(2);
        x.kind(taper0, 9);
        x.kind(taper1, 9);
        x.line(0, point0, 0);
        x.line(1, point1, 0);
        onlyPositions(x, 0, 8);
        x.look(2);
        x.run();
        return x;
    }

    /** Kind 0 first is best if the second may bend back with a key at 8; if not, kind 1 first and then kind 0 at 0. */
    private static RingPieces bendingBack(int stock, int apart, int... positions) {
        RingPieces x = new RingPieces(2);
        x.kind(10, stock);
        x.kind(0, 2);
        x.line(0, 400, 0);
        x.line(1, 1100, 0);
        onlyPositions(x, positions);
        x.apart(apart);
        x.look(2);
        x.run();
        return x;
    }

    private static void oneBehindTheOther() {
        of("Terms, a plan", "may stand one behind the other");
        RingPieces may = bendingBack(2, 16, 0, 4, 8);
        due("kindOf(0)", 0, may.kindOf(0));
        due("turnOf(0)", 0, may.turnOf(0));
        due("sum()", 240L * 240L + 180L * 180L, may.sum());
        RingPieces[] mayNot = {bendingBack(1, 16, 0, 4, 8), bendingBack(2, 16, 0, 4), bendingBack(2, 8, 0, 4, 8)};
        String[] why = {"one in stock for two", "8 forbidden", "8 in line with 0"};
        for (int i = 0; i < 3; i++) {
            due("kindOf(0), " + why[i], 1, mayNot[i].kindOf(0));
            due("turnOf(0), " + why[i], 4, mayNot[i].turnOf(0));
            due("sum(), " + why[i], 400L * 400L + 460L * 460L, mayNot[i].sum());
        }
    }

    private static void leastSumOfBoth() {
        of("Terms, a plan", "the one with the least sum of OFFS");
        // At 1280 both first rings come to the same sum, so that 1 less or more decides.
        RingPieces less = oneAxis(10, 0, 0, 1279);
        due("kindOf(0), the point a little nearer", 1, less.kindOf(0));
        due("sum()", 639L * 639L, less.sum());
        RingPieces more = oneAxis(0, 10, 0, 1281);
        due("kindOf(0), the point a little farther", 1, more.kindOf(0));
        due("sum()", 640L * 640L + 1, more.sum());
    }

    private static void sameSumLesserKind() {
        of("Terms, a plan", "of such with the same sum the one whose first ring has the lesser kind");
        RingPieces x = new RingPieces(1);
        x.kind(10, 1);
        x.kind(0, 1);
        x.line(0, 0, 320);
        x.run();
        due("kindOf(0), though kind 1 could have a lesser position", 0, x.kindOf(0));
        due("turnOf(0)", 4, x.turnOf(0));
        RingPieces bent = oneAxis(10, 0, 0, 1280);
        due("kindOf(0), off now and not later", 0, bent.kindOf(0));
        due("turnOf(0)", 0, bent.turnOf(0));
        due("sum()", 640L * 640L, bent.sum());
        RingPieces straight = oneAxis(0, 10, 0, 1280);
        due("kindOf(0), off later and not now", 0, straight.kindOf(0));
        due("turnOf(0)", 8, straight.turnOf(0));
        due("sum()", 640L * 640L, straight.sum());
        RingPieces four = new RingPieces(4);
        for (int kind = 0; kind < 4; kind++) {
            four.kind(7, 1);
        }
        four.run();
        for (int ring = 0; ring < 4; ring++) {
            due("kindOf(" + ring + "), four alike with one each", ring, four.kindOf(ring));
        }
    }

    private static void sameSumLesserPosition() {
        of("Terms, a plan", "then the lesser position");
        // 45 and 45 is nearer than 64 and 0 or 59 and 24, so that 2, 6, 10 and 14 are alike.
        int[] alike = {2, 6, 10, 14};
        for (int look = 1; look <= 2; look++) {
            RingPieces x = new RingPieces(1);
            x.kind(10, 1);
            x.look(look);
            for (int p : alike) {
                x.run();
                due("turnOf(0)", p, x.turnOf(0));
                x.allow(p, false);
            }
            x.run();
            due("turnOf(0), the next best", 1, x.turnOf(0));
        }
        RingPieces y = even(3, 3);
        y.look(2);
        y.run();
        due("turnOf(0), none bent", 0, y.turnOf(0));
        due("turnOf(1), none bent", 1, y.turnOf(1));
        due("turnOf(2), none bent", 0, y.turnOf(2));
    }

    private static void sameSumSecondRing() {
        of("Terms, a plan", "(kind and position of the second one then likewise)");
        RingPieces x = even(2, 1);
        x.kind(0, 1);
        x.kind(0, 1);
        x.look(2);
        x.run();
        due("kindOf(1)", 1, x.kindOf(1));
        due("turnOf(1)", 1, x.turnOf(1));
        x.allow(1, false);
        x.apart(2);
        x.run();
        due("turnOf(1), without 1 and the even ones", 3, x.turnOf(1));
    }

    private static void noWayButFewer() {
        of("Terms, a plan", "If there is no way, but there are some with fewer rings, the best of those with the most");
        RingPieces x = new RingPieces(3);
        x.kind(10, 1);
        x.line(0, 0, 640);
        x.look(2);
        due("run() with one in stock", 1, x.run());
        due("turnOf(0)", 4, x.turnOf(0));
        x.more(0, 9);
        x.apart(1);
        due("run() with all joints in line", 1, x.run());
        due("turnOf(0)", 4, x.turnOf(0));
        x.apart(16);
        onlyPositions(x, 4);
        due("run() with one position", 1, x.run());
        RingPieces y = site();
        y.look(2);
        y.apart(8);
        onlyPositions(y, 4, 12);
        due("run() with one way behind the one built", 1, y.run());
        due("kindOf(1)", 0, y.kindOf(1));
        due("turnOf(1), the best by itself", 4, y.turnOf(1));
        RingPieces z = dearFirstStep();
        z.look(2);
        z.apart(1);
        z.run();
        due("kindOf(0), the best by itself", 0, z.kindOf(0));
    }

    private static void noneMayStand() {
        of("Terms, a plan", "if none may stand, it ends there");
        for (int look = 1; look <= 2; look++) {
            RingPieces x = even(4, 0);
            x.look(look);
            due("run() with none in stock", 0, x.run());
            x.more(0, 2);
            due("run() with two in stock", 2, x.run());
            due("state(2)", 0, x.state(2));
            due("state(3)", 0, x.state(3));
            onlyPositions(x);
            due("run() with no position", 0, x.run());
            RingPieces none = empty();
            none.look(look);
            due("run() without kinds", 0, none.run());
        }
    }
}
