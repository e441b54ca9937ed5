import java.util.function.Supplier;

/**
 * What the tests of the document's edges are made of: each test names the promise and the sentence that it is of.
 * A refused call must answer as it is due, and the object must then go on like one on which that call was never
 * made.
 */
abstract class Edges {
    static final int LEAST = Integer.MIN_VALUE;
    static final int MOST = Integer.MAX_VALUE;
    static final long THROWS = Long.MIN_VALUE;

    private static final long THROWS_ANOTHER = Long.MIN_VALUE + 1;

    private static int wrong = 0;
    private static int sentences = 0;
    private static String at = "";

    interface Call {
        long on(RingPieces x);
    }

    static void end() {
        System.out.println(wrong == 0 ? sentences + " sentences on edges hold" : wrong + " answers are not as due");
        if (wrong != 0) {
            System.exit(1);
        }
    }

    /** Names the promise and the sentence that the checks behind it are of. */
    static void of(String promise, String sentence) {
        sentences++;
        at = promise + ": \"" + sentence + "\"";
    }

    static void due(String call, long want, long got) {
        if (got != want) {
            wrong++;
            System.out.println(at + ": " + call + " answered " + told(got) + ", due is " + told(want));
        }
    }

    static void due(String call, boolean want, boolean got) {
        due(call, want ? 1 : 0, got ? 1 : 0);
    }

    private static String told(long answer) {
        if (answer == THROWS) {
            return "throws.ArrayIndexOutOfBoundsException";
        }
        return answer == THROWS_ANOTHER ? "throws another exception" : Long.toString(answer);
    }

    static long answer(RingPieces x, Call call) {
        try {
            return call.on(x);
        } catch (RuntimeException e) {
            return e.getClass() == ArrayIndexOutOfBoundsException.class ? THROWS : THROWS_ANOTHER;
        }
    }

    /** The call answers this, and whatever comes behind it is as if it had not been made. */
    static void refused(String call, long want, Supplier<RingPieces> maker, Call made) {
        RingPieces x = maker.get();
        due(call, want, answer(x, made));
        String got = course(x);
        String unchanged = course(maker.get());
        if (!got.equals(unchanged)) {
            wrong++;
            System.out.println(at + ": " + call + " changed the object: " + got + ", without it: " + unchanged);
        }
    }

    static void thrown(String call, Supplier<RingPieces> maker, Call made) {
        refused(call, THROWS, maker, made);
    }

    /** All that can be asked of an object with few rings. */
    private static String picture(RingPieces x) {
        StringBuilder b = new StringBuilder();
        for (int what = 0; what < 8; what++) {
            b.append(x.count(what)).append(' ');
        }
        for (int ring = 0; ring < x.count(0); ring++) {
            b.append("| ").append(x.state(ring)).append(' ').append(x.kindOf(ring)).append(' ').append(x.turnOf(ring));
            for (int axis = 0; axis < 4 && x.state(ring) > 0; axis++) {
                b.append(' ').append(x.place(ring, axis));
            }
            b.append(' ').append(x.state(ring) > 0 ? x.off(ring) : 0).append(' ').append(x.stroke(ring, 0));
        }
        b.append("| ").append(x.sum());
        for (int kind = 0; kind < 4; kind++) {
            b.append(" | ").append(x.left(kind)).append(' ').append(x.list(kind, 0));
            b.append(' ').append(x.list(kind, 1));
        }
        return b.append('\n').toString();
    }

    /** What an object answers now and later: stocks, points of open rings and positions only show later. */
    private static String course(RingPieces x) {
        StringBuilder b = new StringBuilder(picture(x));
        for (int kind = 0; kind < 4; kind++) {
            b.append(x.more(kind, 30)).append(' ');
        }
        b.append(x.kind(9, 30)).append(' ').append(x.run()).append('\n').append(picture(x));
        for (int position = 0; position < 16; position++) {
            b.append(x.allow(position, true) ? 'n' : '.');
        }
        x.apart(16);
        b.append(' ').append(x.run()).append('\n').append(picture(x));
        return b.toString();
    }

    static void onlyPositions(RingPieces x, int... positions) {
        for (int p = 0; p < 16; p++) {
            x.allow(p, false);
        }
        for (int p : positions) {
            x.allow(p, true);
        }
    }

    /** Four rings, all OPEN, and no kinds. */
    static RingPieces empty() {
        return new RingPieces(4);
    }

    /** Four rings, all OPEN, and four kinds, which is all that there may be. */
    static RingPieces full() {
        RingPieces x = new RingPieces(4);
        x.kind(3, 1);
        x.kind(4, 0);
        x.kind(5, 99);
        x.kind(6, 2);
        return x;
    }

    /**
     * Four rings, of which 0, 1 and 2 are PLANNED with keys at 0, 4 and 8, just on the line, and 3 is OPEN. None
     * is left of kind 0 (TAPER 10), two of kind 1 (TAPER 20), none of kind 2 (TAPER 5).
     */
    static RingPieces planned() {
        RingPieces x = new RingPieces(4);
        x.kind(10, 3);
        x.line(0, 640, 0);
        x.line(1, 1920, 640);
        x.line(2, 2560, 1920);
        x.line(3, 70, -80);
        x.run();
        x.kind(20, 2);
        x.kind(5, 0);
        return x;
    }

    /** The same, ring 0 BUILT. */
    static RingPieces site() {
        RingPieces x = planned();
        x.build(1);
        return x;
    }

    /** The same, rings 0, 1 and 2 BUILT. */
    static RingPieces built() {
        RingPieces x = planned();
        x.build(3);
        return x;
    }

    /** So many rings of one kind without TAPER, and so many in stock. */
    static RingPieces even(int rings, int stock) {
        RingPieces x = new RingPieces(rings);
        x.kind(0, stock);
        return x;
    }

    /** One ring with its key at this position, PLANNED, as all others are forbidden. */
    static RingPieces oneRing(int taper, int position) {
        RingPieces x = new RingPieces(1);
        x.kind(taper, 1);
        onlyPositions(x, position);
        x.run();
        return x;
    }

    /** Two rings: on the line at once, the first needs kind 0, which the second has to pay for. */
    static RingPieces dearFirstStep() {
        RingPieces x = new RingPieces(2);
        x.kind(10, 2);
        x.kind(0, 2);
        x.line(0, 640, 0);
        return x;
    }
}
