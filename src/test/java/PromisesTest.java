import java.util.function.LongSupplier;

/** Each promise of the document, with answers worked out by hand from its words. */
public final class PromisesTest {
    private static int wrong = 0;
    private static String part = "";

    public static void main(String[] args) {
        newObject();
        kind();
        more();
        line();
        apart();
        allow();
        look();
        runByOff();
        runByOrder();
        runLooksAhead();
        runWithFewer();
        runAnew();
        build();
        survey();
        surveyThenRun();
        replace();
        replaceRefused();
        kindOfAndTurnOf();
        state();
        place();
        off();
        sum();
        stroke();
        left();
        list();
        count();
        System.out.println(wrong == 0 ? "all promises hold" : wrong + " answers are not as due");
        if (wrong != 0) {
            System.exit(1);
        }
    }

    private static void due(String call, long want, long got) {
        if (got != want) {
            wrong++;
            System.out.println(part + ": " + call + " answered " + got + ", due is " + want);
        }
    }

    private static void due(String call, boolean want, boolean got) {
        due(call, want ? 1 : 0, got ? 1 : 0);
    }

    private static void dueThrow(String call, LongSupplier made) {
        String got;
        try {
            got = "answered " + made.getAsLong();
        } catch (RuntimeException e) {
            if (e.getClass() == ArrayIndexOutOfBoundsException.class) {
                return;
            }
            got = "threw " + e.getClass().getName();
        }
        wrong++;
        System.out.println(part + ": " + call + " " + got + ", due is ArrayIndexOutOfBoundsException");
    }

    /** Two rings of TAPER 10 with keys at 0 and 4: places (640, 0) and (1920, 640), none of the kind left. */
    private static RingPieces bend() {
        RingPieces x = new RingPieces(3);
        x.kind(10, 2);
        x.line(0, 640, 0);
        x.line(1, 1920, 640);
        x.run();
        return x;
    }

    private static void onlyPositions(RingPieces x, int... positions) {
        for (int p = 0; p < 16; p++) {
            x.allow(p, false);
        }
        for (int p : positions) {
            x.allow(p, true);
        }
    }

    private static void newObject() {
        part = "1 a new object";
        int[][] asked = {{1, 1}, {2, 2}, {23, 23}, {24, 24}, {25, 24}, {0, 1}, {-1, 1},
            {Integer.MAX_VALUE, 24}, {Integer.MIN_VALUE, 1}};
        for (int[] a : asked) {
            RingPieces x = new RingPieces(a[0]);
            due("count(0) of " + a[0], a[1], x.count(0));
            due("state of the last", 0, x.state(a[1] - 1));
            due("state behind the last", -1, x.state(a[1]));
        }
        int[] first = {5, 0, 0, 0, 16, 1, 16, 0};
        RingPieces x = new RingPieces(5);
        for (int what = 0; what < first.length; what++) {
            due("count(" + what + ")", first[what], x.count(what));
        }
        due("sum()", 0, x.sum());
        due("left(0)", -1, x.left(0));
        due("run()", 0, x.run());
        due("NONE", -1, RingPieces.NONE);
    }

    private static void kind() {
        part = "2 kind";
        RingPieces x = new RingPieces(2);
        due("taper -1", -2, x.kind(-1, 5));
        due("taper 201", -2, x.kind(201, 5));
        due("stock -1", -2, x.kind(5, -1));
        due("stock 100", -2, x.kind(5, 100));
        due("count(3)", 0, x.count(3));
        due("kind(0, 0)", 0, x.kind(0, 0));
        due("kind(200, 99)", 1, x.kind(200, 99));
        due("kind(200, 99) again", 2, x.kind(200, 99));
        due("kind(7, 1)", 3, x.kind(7, 1));
        due("a fifth", -4, x.kind(7, 1));
        due("-2 before -4, taper", -2, x.kind(201, 1));
        due("-2 before -4, stock", -2, x.kind(1, 100));
        due("count(3)", 4, x.count(3));
        due("left(0)", 0, x.left(0));
        due("left(1)", 99, x.left(1));
        due("left(3)", 1, x.left(3));
    }

    private static void more() {
        part = "3 more";
        RingPieces x = new RingPieces(2);
        due("no kinds", -1, x.more(0, 1));
        x.kind(0, 99);
        x.kind(0, 0);
        due("kind -1", -1, x.more(-1, 1));
        due("kind 2", -1, x.more(2, 1));
        due("-1 before -2", -1, x.more(2, 0));
        due("n 0", -2, x.more(0, 0));
        due("n -1", -2, x.more(0, -1));
        due("n 100", -2, x.more(0, 100));
        due("more(0, 99)", 198, x.more(0, 99));
        due("more(0, 1)", 199, x.more(0, 1));
        due("more(1, 1)", 1, x.more(1, 1));
        due("run()", 2, x.run());
        due("the whole stock, not what is left", 200, x.more(0, 1));
        due("left(0)", 198, x.left(0));
    }

    private static void line() {
        part = "4 line";
        RingPieces x = new RingPieces(2);
        x.kind(0, 9);
        dueThrow("line(-1, 0, 0)", () -> x.line(-1, 0, 0));
        dueThrow("line(2, 0, 0)", () -> x.line(2, 0, 0));
        dueThrow("no such ring before -2", () -> x.line(2, 10000001, 0));
        due("x too great", -2, x.line(0, 10000001, 0));
        due("x too small", -2, x.line(0, -10000001, 0));
        due("y too great", -2, x.line(0, 0, 10000001));
        due("y too small", -2, x.line(0, 0, -10000001));
        due("edges", 1, x.line(0, 10000000, -10000000));
        due("other edges", 1, x.line(1, -10000000, 10000000));
        x.run();
        due("off(0)", 200000000000000L, x.off(0));
        due("off(1)", 200000000000000L, x.off(1));
        due("of a planned ring", 1, x.line(0, 3, -4));
        due("off(0) of the new point", 25, x.off(0));
        due("still planned", 1, x.state(0));
        x.build(1);
        due("of a built ring", -3, x.line(0, 0, 0));
        due("-2 before -3", -2, x.line(0, 0, 10000001));
        due("off(0) as before", 25, x.off(0));
        due("the one behind it", 1, x.line(1, 1, 0));
        due("off(1)", 1, x.off(1));
    }

    private static void apart() {
        part = "5 apart";
        RingPieces x = new RingPieces(4);
        x.kind(0, 99);
        due("apart(0)", -2, x.apart(0));
        due("apart(17)", -2, x.apart(17));
        due("apart(-1)", -2, x.apart(-1));
        due("count(4)", 16, x.count(4));
        due("apart(1)", 1, x.apart(1));
        due("count(4)", 1, x.count(4));
        due("every difference is a multiple of 1", 1, x.run());
        due("apart(2)", 1, x.apart(2));
        onlyPositions(x, 0, 2, 14);
        due("differences are even", 1, x.run());
        x.apart(4);
        due("2 is no multiple of 4", 4, x.run());
        due("turnOf(1)", 2, x.turnOf(1));
        onlyPositions(x, 0, 15);
        x.apart(3);
        due("15 is a multiple of 3", 1, x.run());
        x.apart(4);
        due("15 is none of 4", 4, x.run());
        onlyPositions(x, 7);
        due("apart(16)", 1, x.apart(16));
        due("0 is a multiple of 16", 1, x.run());
        onlyPositions(x, 1, 13);
        x.apart(12);
        due("12 is a multiple of 12", 1, x.run());
    }

    private static void allow() {
        part = "6 allow";
        RingPieces x = new RingPieces(2);
        x.kind(0, 9);
        due("as it is", false, x.allow(0, true));
        due("none such", false, x.allow(-1, false));
        due("none such", false, x.allow(16, false));
        due("none such, and may", false, x.allow(16, true));
        due("count(6)", 16, x.count(6));
        due("new", true, x.allow(0, false));
        due("not new", false, x.allow(0, false));
        due("the last one", true, x.allow(15, false));
        due("count(6)", 14, x.count(6));
        x.run();
        due("turnOf(0)", 1, x.turnOf(0));
        due("turnOf(1)", 2, x.turnOf(1));
        due("again new", true, x.allow(0, true));
        due("count(6)", 15, x.count(6));
        due("what is planned stays", 1, x.turnOf(0));
        x.run();
        due("turnOf(0)", 0, x.turnOf(0));
        onlyPositions(x);
        due("count(6)", 0, x.count(6));
        due("none is allowed", 0, x.run());
    }

    private static void look() {
        part = "7 look";
        RingPieces x = new RingPieces(2);
        due("look(0)", -2, x.look(0));
        due("look(3)", -2, x.look(3));
        due("look(-1)", -2, x.look(-1));
        due("count(5)", 1, x.count(5));
        due("look(2)", 1, x.look(2));
        due("count(5)", 2, x.count(5));
        due("look(1)", 1, x.look(1));
        due("count(5)", 1, x.count(5));
    }

    private static void runByOff() {
        part = "8 run, by off";
        int[] c = {64, 59, 45, 24, 0, -24, -45, -59, -64, -59, -45, -24, 0, 24, 45, 59};
        for (int p = 0; p < 16; p++) {
            int s = c[(p + 12) % 16];
            RingPieces x = new RingPieces(1);
            x.kind(0, 9);
            x.kind(3, 9);
            x.line(0, 3 * c[p], 3 * s);
            due("run() towards " + p, 1, x.run());
            due("kindOf(0) towards " + p, 1, x.kindOf(0));
            due("turnOf(0) towards " + p, p, x.turnOf(0));
            due("off(0) towards " + p, 0, x.off(0));
        }
        RingPieces y = bend();
        due("turnOf(0)", 0, y.turnOf(0));
        due("turnOf(1)", 4, y.turnOf(1));
        due("sum()", 0, y.sum());
        due("none left for the third", 0, y.state(2));
    }

    private static void runByOrder() {
        part = "8 run, by order";
        RingPieces x = new RingPieces(4);
        x.kind(0, 1);
        x.kind(0, 99);
        due("run()", 4, x.run());
        int[] kinds = {0, 1, 1, 1};
        int[] turns = {0, 1, 0, 1};
        for (int ring = 0; ring < 4; ring++) {
            due("the lesser kind at " + ring, kinds[ring], x.kindOf(ring));
            due("the lesser position at " + ring, turns[ring], x.turnOf(ring));
        }
        RingPieces y = new RingPieces(1);
        y.kind(10, 9);
        y.kind(0, 9);
        y.line(0, 320, 0);
        y.run();
        due("the lesser kind, whose off is the same", 0, y.kindOf(0));
        RingPieces z = new RingPieces(2);
        z.kind(0, 9);
        z.look(2);
        z.run();
        due("the lesser position first, looking ahead", 0, z.turnOf(0));
        due("then the lesser one that may stand", 1, z.turnOf(1));
        z.kind(0, 9);
        z.line(1, 1, 0);
        z.run();
        due("the lesser kind, where the second ring is off", 0, z.kindOf(0));
        due("the lesser position, where the second ring is off", 0, z.turnOf(0));
    }

    private static void runLooksAhead() {
        part = "8 run, ahead";
        RingPieces x = new RingPieces(2);
        x.kind(10, 9);
        x.kind(0, 9);
        x.line(0, 640, 0);
        due("run()", 2, x.run());
        due("the nearest at once", 0, x.kindOf(0));
        due("then against it", 8, x.turnOf(1));
        due("sum()", 1280L * 1280L, x.sum());
        x.look(2);
        due("run()", 2, x.run());
        due("the best of both", 1, x.kindOf(0));
        due("and nothing to mend", 1, x.kindOf(1));
        due("sum()", 640L * 640L, x.sum());
        RingPieces y = new RingPieces(2);
        y.kind(10, 9);
        y.kind(0, 1);
        y.line(0, 1400, 0);
        y.look(2);
        y.run();
        due("one of the better kind is no two", 0, y.kindOf(0));
        due("sum()", 760L * 760L + 1280L * 1280L, y.sum());
        y.more(1, 1);
        y.run();
        due("two of the better kind", 1, y.kindOf(0));
        due("sum()", 1400L * 1400L, y.sum());
    }

    private static void runWithFewer() {
        part = "8 run, fewer";
        RingPieces x = new RingPieces(3);
        x.look(2);
        x.kind(0, 0);
        due("none in stock", 0, x.run());
        x.kind(10, 1);
        x.line(0, 0, 640);
        due("one in stock, no way for two", 1, x.run());
        due("kindOf(0)", 1, x.kindOf(0));
        due("turnOf(0)", 4, x.turnOf(0));
        x.more(1, 99);
        x.apart(1);
        due("no joints for two", 1, x.run());
        due("turnOf(0)", 4, x.turnOf(0));
        RingPieces y = new RingPieces(1);
        y.look(2);
        y.kind(10, 9);
        y.line(0, -640, 0);
        due("fewer at the end", 1, y.run());
        due("turnOf(0)", 8, y.turnOf(0));
    }

    private static void runAnew() {
        part = "8 run, anew";
        RingPieces x = new RingPieces(3);
        x.kind(0, 3);
        due("run()", 3, x.run());
        due("left(0)", 0, x.left(0));
        due("what was planned is open again first", 3, x.run());
        x.build(1);
        due("run()", 2, x.run());
        due("behind the joints of the one built", 1, x.turnOf(1));
        x.apart(1);
        due("none may stand behind it", 0, x.run());
        due("left(0)", 2, x.left(0));
        due("state(1)", 0, x.state(1));
        x.apart(16);
        x.run();
        x.build(2);
        due("all are built", 0, x.run());
        due("count(7)", 6, x.count(7));
    }

    private static void build() {
        part = "9 build";
        RingPieces x = new RingPieces(4);
        x.kind(0, 3);
        due("none planned", -3, x.build(1));
        due("run()", 3, x.run());
        due("build(0)", -2, x.build(0));
        due("build(-1)", -2, x.build(-1));
        due("build(4)", -3, x.build(4));
        due("a very great number", -3, x.build(Integer.MAX_VALUE));
        due("count(1)", 0, x.count(1));
        due("build(1)", 1, x.build(1));
        due("state(0)", 2, x.state(0));
        due("state(1)", 1, x.state(1));
        due("build(3)", -3, x.build(3));
        due("build(2): all that are built", 3, x.build(2));
        due("state(2)", 2, x.state(2));
        due("state(3)", 0, x.state(3));
        due("count(2)", 0, x.count(2));
        due("left(0)", 0, x.left(0));
        due("-2 before -3", -2, x.build(0));
    }

    private static void survey() {
        part = "10 survey";
        RingPieces x = bend();
        dueThrow("survey(-1, 0, 0)", () -> x.survey(-1, 0, 0));
        dueThrow("survey(3, 0, 0)", () -> x.survey(3, 0, 0));
        dueThrow("no such ring before -2", () -> x.survey(3, 100001, 0));
        due("planned only", -3, x.survey(0, 0, 0));
        due("open", -3, x.survey(2, 0, 0));
        due("-2 before -3", -2, x.survey(2, 100001, 0));
        x.build(2);
        due("dx too great", -2, x.survey(0, 100001, 0));
        due("dx too small", -2, x.survey(0, -100001, 0));
        due("dy too great", -2, x.survey(0, 0, 100001));
        due("dy too small", -2, x.survey(0, 0, -100001));
        due("from ring 0 on", 2, x.survey(0, 100000, -100000));
        due("x of 0", 100640, x.place(0, 0));
        due("y of 0", -100000, x.place(0, 1));
        due("x of 1", 101920, x.place(1, 0));
        due("y of 1", -99360, x.place(1, 1));
        due("from ring 1 on", 1, x.survey(1, -100000, 100000));
        due("x of 0", 100640, x.place(0, 0));
        due("x of 1", 1920, x.place(1, 0));
        due("y of 1", 640, x.place(1, 1));
        due("dx of 1", 640, x.place(1, 2));
        due("dy of 1", 640, x.place(1, 3));
    }

    private static void surveyThenRun() {
        part = "10 survey, then run";
        RingPieces x = bend();
        x.kind(0, 9);
        x.run();
        x.build(1);
        due("left(0)", 0, x.left(0));
        due("survey(0, 5, 7)", 1, x.survey(0, 5, 7));
        due("planned ones are open", 0, x.count(2));
        due("state(1)", 0, x.state(1));
        due("and left again", 1, x.left(0));
        due("run()", 2, x.run());
        due("x of 1 from where 0 is measured", 1925, x.place(1, 0));
        due("y of 1 from where 0 is measured", 647, x.place(1, 1));
        due("off(1)", 74, x.off(1));
        due("nothing measured", 1, x.survey(0, 0, 0));
        due("planned ones are open", 0, x.count(2));
    }

    private static void replace() {
        part = "11 replace";
        RingPieces x = bend();
        x.kind(0, 1);
        due("kind(20, 1)", 2, x.kind(20, 1));
        due("replace(0, 2)", 1, x.replace(0, 2));
        due("kindOf(0)", 2, x.kindOf(0));
        due("turnOf(0)", 0, x.turnOf(0));
        due("state(0)", 1, x.state(0));
        due("x of 0", 1280, x.place(0, 0));
        due("x of 1", 3840, x.place(1, 0));
        due("y of 1", 640, x.place(1, 1));
        due("dx of 1", 1280, x.place(1, 2));
        due("dy of 1", 640, x.place(1, 3));
        due("left(0)", 1, x.left(0));
        due("left(2)", 0, x.left(2));
        due("sum()", 640L * 640L + 1920L * 1920L, x.sum());
        due("those behind stay planned", 1, x.state(1));
        due("replace(1, 1)", 1, x.replace(1, 1));
        due("x of 1", 3840, x.place(1, 0));
        due("y of 1", 0, x.place(1, 1));
        due("x of 0 as before", 1280, x.place(0, 0));
        x.allow(0, false);
        x.apart(1);
        due("neither key nor joints are asked again", 1, x.replace(0, 0));
        RingPieces y = new RingPieces(1);
        y.kind(0, 1);
        y.kind(10, 1);
        y.run();
        due("the last ring there is", 1, y.replace(0, 1));
        due("x of 0", 640, y.place(0, 0));
    }

    private static void replaceRefused() {
        part = "11 replace, refused";
        RingPieces x = bend();
        dueThrow("replace(-1, 0)", () -> x.replace(-1, 0));
        dueThrow("replace(3, 0)", () -> x.replace(3, 0));
        dueThrow("no such ring before -1", () -> x.replace(3, 9));
        due("kind 1", -1, x.replace(0, 1));
        due("kind -1", -1, x.replace(0, -1));
        due("-1 before -3", -1, x.replace(2, 1));
        x.kind(5, 0);
        due("none left", -3, x.replace(0, 1));
        x.more(0, 5);
        due("of that kind", -3, x.replace(0, 0));
        due("open", -3, x.replace(2, 0));
        x.more(1, 1);
        x.build(1);
        due("built", -3, x.replace(0, 1));
        due("planned", 1, x.replace(1, 1));
        due("kindOf(0)", 0, x.kindOf(0));
    }

    private static void kindOfAndTurnOf() {
        part = "12, 13 kindOf and turnOf";
        RingPieces x = new RingPieces(3);
        x.kind(0, 0);
        x.kind(10, 2);
        x.line(0, 0, -640);
        due("kindOf of an open one", -1, x.kindOf(0));
        due("turnOf of an open one", -1, x.turnOf(0));
        x.run();
        x.build(1);
        due("kindOf of a built one", 1, x.kindOf(0));
        due("turnOf of a built one", 12, x.turnOf(0));
        due("kindOf of a planned one", 1, x.kindOf(1));
        due("turnOf of a planned one", 4, x.turnOf(1));
        for (int ring : new int[] {2, 3, -1, Integer.MAX_VALUE, Integer.MIN_VALUE}) {
            due("kindOf(" + ring + ")", -1, x.kindOf(ring));
            due("turnOf(" + ring + ")", -1, x.turnOf(ring));
        }
    }

    private static void state() {
        part = "14 state";
        RingPieces x = bend();
        due("planned", 1, x.state(0));
        x.build(1);
        due("built", 2, x.state(0));
        due("planned", 1, x.state(1));
        due("open", 0, x.state(2));
        due("none such", -1, x.state(3));
        due("none such", -1, x.state(-1));
    }

    private static void place() {
        part = "15 place";
        RingPieces x = bend();
        x.build(1);
        long[][] want = {{640, 0, 640, 0}, {1920, 640, 640, 640}};
        for (int ring = 0; ring < 2; ring++) {
            for (int axis = 0; axis < 4; axis++) {
                due("place(" + ring + ", " + axis + ")", want[ring][axis], x.place(ring, axis));
            }
        }
        dueThrow("axis -1", () -> x.place(0, -1));
        dueThrow("axis 4", () -> x.place(0, 4));
        dueThrow("an open ring", () -> x.place(2, 0));
        dueThrow("ring 3", () -> x.place(3, 0));
        dueThrow("ring -1", () -> x.place(-1, 0));
    }

    private static void off() {
        part = "16 off";
        RingPieces x = bend();
        x.line(0, 643, -4);
        x.line(1, 1920, 652);
        due("planned", 25, x.off(0));
        due("planned", 144, x.off(1));
        x.build(1);
        due("built", 25, x.off(0));
        x.survey(0, 3, -4);
        due("measured", 0, x.off(0));
        dueThrow("an open ring", () -> x.off(2));
        dueThrow("ring 3", () -> x.off(3));
        dueThrow("ring -1", () -> x.off(-1));
    }

    private static void sum() {
        part = "17 sum";
        RingPieces x = bend();
        x.line(0, 643, -4);
        x.line(1, 1920, 652);
        x.line(2, 1000, 1000);
        due("the open one does not count", 169, x.sum());
        x.build(1);
        due("built and planned", 169, x.sum());
        x.survey(0, 0, 0);
        due("built", 25, x.sum());
    }

    private static void stroke() {
        part = "18 stroke";
        RingPieces x = new RingPieces(2);
        x.kind(1, 1);
        x.line(0, 0, 64);
        x.run();
        int[] want = {0, 0, 0, 0, 1, 0, 0, 0, 0, -1, -1, -1, -1, -1, -1, -1};
        for (int p = 0; p < 16; p++) {
            due("stroke(0, " + p + ")", want[p], x.stroke(0, p));
        }
        due("position 16", 0, x.stroke(0, 16));
        due("position -12", 0, x.stroke(0, -12));
        due("position 20", 0, x.stroke(0, 20));
        due("an open ring", 0, x.stroke(1, 4));
        due("ring 2", 0, x.stroke(2, 4));
        due("ring -1", 0, x.stroke(-1, 4));
        x.build(1);
        due("a built ring", 1, x.stroke(0, 4));
        RingPieces y = new RingPieces(1);
        y.kind(200, 1);
        y.line(0, 12800, 0);
        y.run();
        due("200", 200, y.stroke(0, 0));
        due("184.375", 184, y.stroke(0, 1));
        due("-140.625", -141, y.stroke(0, 6));
        due("-200", -200, y.stroke(0, 8));
    }

    private static void left() {
        part = "19 left";
        RingPieces x = new RingPieces(3);
        x.kind(0, 5);
        x.kind(10, 0);
        due("left(0)", 5, x.left(0));
        due("left(1)", 0, x.left(1));
        due("left(2)", -1, x.left(2));
        due("left(-1)", -1, x.left(-1));
        x.run();
        due("less those planned", 2, x.left(0));
        x.build(2);
        due("less those built", 2, x.left(0));
        x.survey(0, 0, 0);
        due("open ones are left", 3, x.left(0));
    }

    private static void list() {
        part = "20 list";
        RingPieces x = new RingPieces(5);
        x.kind(0, 4);
        x.kind(10, 9);
        x.line(1, 0, 640);
        x.line(2, 0, 1920);
        x.line(3, 0, 3200);
        due("run()", 5, x.run());
        x.build(2);
        due("list(1, 0)", 1, x.list(1, 0));
        due("list(1, 1)", 4, x.list(1, 1));
        due("list(1, 2)", -1, x.list(1, 2));
        due("list(0, 0)", 0, x.list(0, 0));
        due("list(0, 1)", 2, x.list(0, 1));
        due("list(0, 2)", 3, x.list(0, 2));
        due("list(0, 3)", -1, x.list(0, 3));
        due("list(0, -1)", -1, x.list(0, -1));
        due("list(2, 0)", -1, x.list(2, 0));
        due("list(-1, 0)", -1, x.list(-1, 0));
        x.survey(0, 0, 0);
        due("the open ones do not count", -1, x.list(0, 1));
    }

    private static void count() {
        part = "21 count";
        RingPieces x = new RingPieces(7);
        x.kind(0, 5);
        x.kind(10, 0);
        x.kind(20, 0);
        x.apart(9);
        x.look(2);
        x.allow(3, false);
        x.run();
        x.run();
        x.build(1);
        int[] want = {7, 1, 4, 3, 9, 2, 15, 2};
        for (int what = 0; what < want.length; what++) {
            due("count(" + what + ")", want[what], x.count(what));
        }
        dueThrow("count(-1)", () -> x.count(-1));
        dueThrow("count(8)", () -> x.count(8));
        dueThrow("a very great number", () -> x.count(Integer.MAX_VALUE));
    }
}
