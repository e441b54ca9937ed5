/** The edges of promises 12 to 21: the calls that only ask. */
public final class EdgesOfQuestionsTest extends Edges {
    public static void main(String[] args) {
        kindOfEdges();
        turnOfEdges();
        stateOfEach();
        stateNoSuchRing();
        placeAxes();
        placeThrows();
        offEdges();
        offThrows();
        sumNoneAndAll();
        strokeGoesRound();
        strokeRoundedDown();
        strokeTaperEdges();
        strokeNothing();
        leftNoneAndAll();
        leftNoneSuch();
        listFirstAndLast();
        listNotSoMany();
        countEach();
        countAnother();
        end();
    }

    private static void kindOfEdges() {
        of("Promise 12, kindOf", "NONE if it is OPEN, or there is none such.");
        due("NONE", -1, RingPieces.NONE);
        for (int ring : new int[] {3, 4, 24, -1, LEAST, MOST}) {
            refused("kindOf(" + ring + ")", -1, Edges::site, x -> x.kindOf(ring));
        }
        due("kindOf(0) with all open", -1, full().kindOf(0));
        RingPieces y = site();
        y.replace(2, 1);
        due("kindOf(0), built", 0, y.kindOf(0));
        due("kindOf(1), the first planned", 0, y.kindOf(1));
        due("kindOf(2), the last planned", 1, y.kindOf(2));
        y.survey(0, 0, 0);
        due("kindOf(2), open again", -1, y.kindOf(2));
        RingPieces z = even(24, 24);
        z.run();
        due("kindOf(23) of 24", 0, z.kindOf(23));
    }

    private static void turnOfEdges() {
        of("Promise 13, turnOf", "NONE likewise.");
        for (int ring : new int[] {3, 4, 24, -1, LEAST, MOST}) {
            refused("turnOf(" + ring + ")", -1, Edges::site, x -> x.turnOf(ring));
        }
        due("turnOf(0) with all open", -1, full().turnOf(0));
        RingPieces y = site();
        due("turnOf(0), built", 0, y.turnOf(0));
        due("turnOf(1), the first planned", 4, y.turnOf(1));
        due("turnOf(2), the last planned", 8, y.turnOf(2));
        y.survey(0, 0, 0);
        due("turnOf(2), open again", -1, y.turnOf(2));
        due("turnOf(0), the last position", 15, oneRing(1, 15).turnOf(0));
    }

    private static void stateOfEach() {
        of("Promise 14, state", "0 OPEN, 1 PLANNED, 2 BUILT");
        int[] want = {2, 1, 1, 0};
        for (int ring = 0; ring < 4; ring++) {
            due("state(" + ring + ")", want[ring], site().state(ring));
        }
    }

    private static void stateNoSuchRing() {
        of("Promise 14, state", "NONE if there is no such ring.");
        for (int ring : new int[] {4, 24, -1, LEAST, MOST}) {
            refused("state(" + ring + ")", -1, Edges::site, x -> x.state(ring));
        }
        due("state(23) of 24", 0, new RingPieces(24).state(23));
        due("state(24) of 24", -1, new RingPieces(24).state(24));
        due("state(1) of 1", -1, new RingPieces(1).state(1));
    }

    private static void placeAxes() {
        of("Promise 15, place", "axis = 0 x, 1 y, 2 dx, 3 dy.");
        long[][] at = {{640, 0, 640, 0}, {1920, 640, 640, 640}, {2560, 1920, 0, 640}};
        for (int ring = 0; ring < 3; ring++) {
            for (int axis = 0; axis < 4; axis++) {
                due("place(" + ring + ", " + axis + ")", at[ring][axis], site().place(ring, axis));
            }
        }
        RingPieces y = even(24, 24);
        y.run();
        due("place(23, 0) of 24", 0, y.place(23, 0));
    }

    private static void placeThrows() {
        of("Promise 15, place", "ArrayIndexOutOfBounds: there is no such ring, or it is OPEN, or no such axis.");
        for (int axis = 0; axis < 4; axis++) {
            int a = axis;
            for (int ring : new int[] {4, 24, -1, LEAST, MOST}) {
                thrown("place(" + ring + ", " + a + ")", Edges::site, x -> x.place(ring, a));
            }
            thrown("place(3, " + a + ") of the open one", Edges::site, x -> x.place(3, a));
            thrown("place(0, " + a + ") with all open", Edges::full, x -> x.place(0, a));
        }
        for (int axis : new int[] {-1, 4, LEAST, MOST}) {
            for (int ring = 0; ring < 3; ring++) {
                int r = ring;
                thrown("place(" + r + ", " + axis + ")", Edges::site, x -> x.place(r, axis));
            }
            thrown("place(3, " + axis + ") of the open one", Edges::site, x -> x.place(3, axis));
        }
        due("place(2, 0), open again", THROWS, answer(site(), x -> x.place(x.survey(0, 0, 0) + 1, 0)));
    }

    private static void offEdges() {
        of("Promise 16, off", "A ring's OFF.");
        RingPieces x = site();
        due("off(0), built, on the line", 0, x.off(0));
        due("off(2), the last planned, on the line", 0, x.off(2));
        RingPieces y = even(24, 24);
        y.line(23, 10000000, -10000000);
        y.run();
        due("off(22) of 24", 0, y.off(22));
        due("off(23) of 24, as far as can be", 200000000000000L, y.off(23));
    }

    private static void offThrows() {
        of("Promise 16, off", "ArrayIndexOutOfBounds: there is no such ring, or it is OPEN.");
        for (int ring : new int[] {4, 24, -1, LEAST, MOST}) {
            thrown("off(" + ring + ")", Edges::site, x -> x.off(ring));
        }
        thrown("off(3) of the open one", Edges::site, x -> x.off(3));
        thrown("off(0) with all open", Edges::full, x -> x.off(0));
        thrown("off(3) behind the last built", Edges::built, x -> x.off(3));
    }

    private static void sumNoneAndAll() {
        of("Promise 17, sum", "The sum of all OFFS of rings that are BUILT or PLANNED.");
        due("sum() with all open", 0, full().sum());
        RingPieces x = even(4, 4);
        for (int ring = 0; ring < 4; ring++) {
            x.line(ring, 1 + 9 * (ring / 2), 0);
        }
        due("sum(), the line alone", 0, x.sum());
        x.run();
        due("sum(), all planned", 1 + 1 + 100 + 100, x.sum());
        x.build(3);
        due("sum(), three built and one planned", 1 + 1 + 100 + 100, x.sum());
        x.build(1);
        due("sum(), all built", 1 + 1 + 100 + 100, x.sum());
        RingPieces y = site();
        due("sum(), the open one off the line", 0, y.sum());
        y.survey(0, 3, 4);
        due("sum(), one built", 25, y.sum());
    }

    private static void strokeGoesRound() {
        of("Promise 18, stroke", "TAPER c(k), k the position less the key's, over 64");
        int[] c = {64, 59, 45, 24, 0, -24, -45, -59, -64, -59, -45, -24, 0, 24, 45, 59};
        for (int key = 0; key < 16; key++) {
            RingPieces x = oneRing(64, key);
            for (int behind = 0; behind < 16; behind++) {
                int position = (key + behind) % 16;
                due("stroke(0, " + position + ") of a key at " + key, c[behind], x.stroke(0, position));
            }
        }
    }

    private static void strokeRoundedDown() {
        of("Promise 18, stroke", "rounded down");
        int[] one = {1, 0, 0, 0, 0, -1, -1, -1, -1, -1, -1, -1, 0, 0, 0, 0};
        // 200 c(k) over 64: 200, 184.375, 140.625, 75, 0 and those below 0.
        int[] most = {200, 184, 140, 75, 0, -75, -141, -185, -200, -185, -141, -75, 0, 75, 140, 184};
        RingPieces x = oneRing(1, 0);
        RingPieces y = oneRing(200, 0);
        for (int position = 0; position < 16; position++) {
            due("stroke(0, " + position + ") of TAPER 1", one[position], x.stroke(0, position));
            due("stroke(0, " + position + ") of TAPER 200", most[position], y.stroke(0, position));
        }
    }

    private static void strokeTaperEdges() {
        of("Promise 18, stroke", "How much longer a ring is at a position than in the middle");
        RingPieces x = oneRing(0, 5);
        for (int position = 0; position < 16; position++) {
            due("stroke(0, " + position + ") of TAPER 0", 0, x.stroke(0, position));
        }
        RingPieces y = site();
        due("stroke(0, 0), built", 10, y.stroke(0, 0));
        due("stroke(2, 8), the last planned", 10, y.stroke(2, 8));
        y.replace(2, 1);
        due("stroke(2, 8), replaced", 20, y.stroke(2, 8));
    }

    private static void strokeNothing() {
        of("Promise 18, stroke", "0 if it is OPEN, or there is no such ring or position.");
        for (int ring : new int[] {3, 4, 24, -1, LEAST, MOST}) {
            for (int position : new int[] {0, 15, 16, -1}) {
                refused("stroke(" + ring + ", " + position + ")", 0, Edges::site, x -> x.stroke(ring, position));
            }
        }
        for (int position : new int[] {-1, 16, -16, 32, LEAST, MOST}) {
            refused("stroke(0, " + position + ")", 0, Edges::site, x -> x.stroke(0, position));
            refused("stroke(2, " + position + ")", 0, Edges::site, x -> x.stroke(2, position));
        }
        RingPieces y = site();
        y.survey(0, 0, 0);
        due("stroke(2, 8), open again", 0, y.stroke(2, 8));
    }

    private static void leftNoneAndAll() {
        of("Promise 19, left", "How many of a kind are left");
        RingPieces x = full();
        due("left(1), none in stock", 0, x.left(1));
        due("left(2), all 99", 99, x.left(2));
        due("left(3) of the fourth kind", 2, x.left(3));
        RingPieces y = even(3, 3);
        due("left(0), none planned", 3, y.left(0));
        y.run();
        due("left(0), all planned", 0, y.left(0));
        y.build(3);
        due("left(0), all built", 0, y.left(0));
        y.more(0, 99);
        due("left(0), with more", 99, y.left(0));
    }

    private static void leftNoneSuch() {
        of("Promise 19, left", "-1 if there is none such.");
        refused("left(0) without kinds", -1, Edges::empty, x -> x.left(0));
        for (int kind : new int[] {-1, 3, 4, LEAST, MOST}) {
            refused("left(" + kind + ") with 3 kinds", -1, Edges::site, x -> x.left(kind));
        }
        refused("left(4) with 4 kinds", -1, Edges::full, x -> x.left(4));
    }

    private static void listFirstAndLast() {
        of("Promise 20, list", "The k-th ring (from 0) of a kind, of those that are BUILT or PLANNED");
        RingPieces x = site();
        x.replace(1, 1);
        due("list(0, 0), built", 0, x.list(0, 0));
        due("list(0, 1), planned", 2, x.list(0, 1));
        due("list(1, 0)", 1, x.list(1, 0));
        RingPieces y = even(24, 24);
        y.run();
        for (int k = 0; k < 24; k++) {
            due("list(0, " + k + ") of 24", k, y.list(0, k));
        }
        due("list(0, 24) of 24", -1, y.list(0, 24));
    }

    private static void listNotSoMany() {
        of("Promise 20, list", "NONE if there are not so many.");
        for (int k : new int[] {3, 4, -1, LEAST, MOST}) {
            refused("list(0, " + k + ") of three", -1, Edges::site, x -> x.list(0, k));
        }
        for (int k : new int[] {0, 1, -1}) {
            refused("list(1, " + k + ") of none", -1, Edges::site, x -> x.list(1, k));
            refused("list(0, " + k + ") with all open", -1, Edges::full, x -> x.list(0, k));
            for (int kind : new int[] {-1, 3, 4, LEAST, MOST}) {
                refused("list(" + kind + ", " + k + "), no such kind", -1, Edges::site, x -> x.list(kind, k));
            }
        }
        RingPieces y = site();
        y.survey(0, 0, 0);
        due("list(0, 0), built", 0, y.list(0, 0));
        due("list(0, 1), open again", -1, y.list(0, 1));
    }

    private static void countEach() {
        of("Promise 21, count", "What = 0 rings, 1 those BUILT, 2 PLANNED, 3 kinds, 4 APART, 5 LOOK, 6 positions that "
            + "are allowed, 7 plans.");
        RingPieces x = new RingPieces(7);
        int[] none = {7, 0, 0, 0, 16, 1, 16, 0};
        for (int what = 0; what < 8; what++) {
            due("count(" + what + ") of a new object", none[what], x.count(what));
        }
        for (int kind = 0; kind < 4; kind++) {
            x.kind(kind, 0);
        }
        x.apart(5);
        x.look(2);
        onlyPositions(x, 1, 2, 3);
        due("run() of nothing", 0, x.run());
        x.more(0, 6);
        x.run();
        x.build(2);
        int[] some = {7, 2, 4, 4, 5, 2, 3, 2};
        for (int what = 0; what < 8; what++) {
            due("count(" + what + ")", some[what], x.count(what));
        }
        x.run();
        x.run();
        due("count(7), each plan counts", 4, x.count(7));
    }

    private static void countAnother() {
        of("Promise 21, count", "ArrayIndexOutOfBounds: another what.");
        for (int what : new int[] {-1, 8, 16, LEAST, MOST}) {
            thrown("count(" + what + ")", Edges::site, x -> x.count(what));
        }
    }
}
