/** The edges of promises 1 to 11: a new object, and the calls that change one. */
public final class EdgesOfChangesTest extends Edges {
    public static void main(String[] args) {
        ringsInRange();
        ringsOutOfRange();
        noKinds();
        kindTaper();
        kindStock();
        kindNumber();
        kindNoRoom();
        moreRange();
        moreUnknown();
        moreOutside();
        moreWholeStock();
        lineRange();
        lineOutside();
        lineBuilt();
        lineNoSuchRing();
        apartRange();
        apartOutside();
        allowWhetherNew();
        allowNoneAndAll();
        allowNoneSuch();
        lookRange();
        lookOutside();
        runNoneAndAll();
        buildOneAndAll();
        buildHowMany();
        buildBelowOne();
        buildTooMany();
        surveyRange();
        surveyOutside();
        surveyMovesBehind();
        surveyHowMany();
        surveyOpensPlanned();
        surveyNotBuilt();
        surveyNoSuchRing();
        replaceKindAtItsPosition();
        replaceMovesBehind();
        replaceUnknownKind();
        replaceNotPlanned();
        replaceOfThatKind();
        replaceNoneLeft();
        replaceNoSuchRing();
        end();
    }

    private static void ringsInRange() {
        of("Promise 1", "So many rings (1 .. 24");
        for (int rings = 1; rings <= 24; rings++) {
            RingPieces x = even(rings, 99);
            due("count(0) of " + rings, rings, x.count(0));
            due("state of the last of " + rings, 0, x.state(rings - 1));
            due("state behind the last of " + rings, -1, x.state(rings));
            due("run() of " + rings, rings, x.run());
        }
    }

    private static void ringsOutOfRange() {
        of("Promise 1", "for other numbers the nearest of these");
        int[][] asked = {{0, 1}, {-1, 1}, {LEAST, 1}, {25, 24}, {26, 24}, {MOST, 24}};
        for (int[] a : asked) {
            RingPieces x = even(a[0], 99);
            due("count(0) of " + a[0], a[1], x.count(0));
            due("state of the last of " + a[0], 0, x.state(a[1] - 1));
            due("state behind the last of " + a[0], -1, x.state(a[1]));
            due("run() of " + a[0], a[1], x.run());
        }
    }

    private static void noKinds() {
        of("Promise 1", "no kinds");
        RingPieces x = empty();
        due("count(3)", 0, x.count(3));
        due("left(0)", -1, x.left(0));
        due("more(0, 1)", -1, x.more(0, 1));
        due("list(0, 0)", -1, x.list(0, 0));
        due("run()", 0, x.run());
        due("sum()", 0, x.sum());
        due("the first kind's number", 0, x.kind(1, 1));
    }

    private static void kindTaper() {
        of("Promise 2, kind", "-2 its TAPER is not 0 .. 200");
        for (int taper : new int[] {0, 1, 199, 200}) {
            RingPieces x = new RingPieces(1);
            due("kind(" + taper + ", 1)", 0, x.kind(taper, 1));
            onlyPositions(x, 0);
            x.run();
            due("dx of TAPER " + taper, 64L * taper, x.place(0, 2));
        }
        for (int taper : new int[] {-1, 201, LEAST, MOST}) {
            refused("kind(" + taper + ", 1), the first", -2, Edges::empty, x -> x.kind(taper, 1));
            refused("kind(" + taper + ", 1)", -2, Edges::site, x -> x.kind(taper, 1));
        }
    }

    private static void kindStock() {
        of("Promise 2, kind", "or the stock not 0 .. 99");
        for (int stock : new int[] {0, 1, 98, 99}) {
            RingPieces x = empty();
            due("kind(1, " + stock + ")", 0, x.kind(1, stock));
            due("left(0)", stock, x.left(0));
        }
        for (int stock : new int[] {-1, 100, LEAST, MOST}) {
            refused("kind(1, " + stock + "), the first", -2, Edges::empty, x -> x.kind(1, stock));
            refused("kind(1, " + stock + ")", -2, Edges::site, x -> x.kind(1, stock));
        }
        refused("kind(201, 100)", -2, Edges::site, x -> x.kind(201, 100));
    }

    private static void kindNumber() {
        of("Promise 2, kind", "A kind, with so many in stock: its number.");
        RingPieces x = empty();
        for (int number = 0; number < 4; number++) {
            due("kind(201, 5), refused", -2, x.kind(201, 5));
            due("kind(7, 5), like the others", number, x.kind(7, 5));
            due("count(3)", number + 1, x.count(3));
        }
    }

    private static void kindNoRoom() {
        of("Promise 2, kind", "-4 there are 4");
        refused("kind(0, 0), a fifth", -4, Edges::full, x -> x.kind(0, 0));
        refused("kind(200, 99), a fifth", -4, Edges::full, x -> x.kind(200, 99));
        RingPieces x = site();
        due("kind(1, 1), the fourth", 3, x.kind(1, 1));
        due("kind(1, 1), a fifth", -4, x.kind(1, 1));
        due("count(3)", 4, x.count(3));
    }

    private static void moreRange() {
        of("Promise 3, more", "Some more of a kind (1 .. 99): its stock.");
        RingPieces x = full();
        due("more(1, 1) of none", 1, x.more(1, 1));
        due("more(1, 99)", 100, x.more(1, 99));
        due("more(2, 99) of 99", 198, x.more(2, 99));
        due("more(3, 98)", 100, x.more(3, 98));
        due("left(1)", 100, x.left(1));
        due("left(0), as it was", 1, x.left(0));
    }

    private static void moreUnknown() {
        of("Promise 3, more", "-1;");
        refused("more(0, 1) without kinds", -1, Edges::empty, x -> x.more(0, 1));
        for (int kind : new int[] {-1, 3, 4, LEAST, MOST}) {
            refused("more(" + kind + ", 1) with 3 kinds", -1, Edges::site, x -> x.more(kind, 1));
        }
        refused("more(4, 1) with 4 kinds", -1, Edges::full, x -> x.more(4, 1));
        due("more(3, 1) with 4 kinds", 3, full().more(3, 1));
        due("more(2, 1) with 3 kinds", 1, site().more(2, 1));
    }

    private static void moreOutside() {
        of("Promise 3, more", "-2.");
        for (int n : new int[] {0, -1, 100, LEAST, MOST}) {
            refused("more(1, " + n + ")", -2, Edges::site, x -> x.more(1, n));
            refused("more(2, " + n + ") of none", -2, Edges::site, x -> x.more(2, n));
        }
    }

    private static void moreWholeStock() {
        of("Promise 3, more", "its stock");
        RingPieces x = site();
        due("more(0, 1), all three of it used", 4, x.more(0, 1));
        due("left(0)", 1, x.left(0));
    }

    private static void lineRange() {
        of("Promise 4, line", "each -10000000 .. 10000000: 1.");
        int[][] points = {{10000000, -10000000}, {-10000000, 10000000}, {9999999, -9999999}, {0, 0}};
        for (int[] p : points) {
            RingPieces x = even(2, 2);
            for (int ring = 0; ring < 2; ring++) {
                due("line(" + ring + ", " + p[0] + ", " + p[1] + ")", 1, x.line(ring, p[0], p[1]));
            }
            x.run();
            long away = (long) p[0] * p[0] + (long) p[1] * p[1];
            due("off(0)", away, x.off(0));
            due("off(1)", away, x.off(1));
        }
    }

    private static void lineOutside() {
        of("Promise 4, line", "-2;");
        for (int far : new int[] {10000001, -10000001, MOST, LEAST}) {
            for (int ring = 0; ring < 4; ring++) {
                int r = ring;
                refused("line(" + r + ", " + far + ", 0)", -2, Edges::site, x -> x.line(r, far, 0));
                refused("line(" + r + ", 0, " + far + ")", -2, Edges::site, x -> x.line(r, 0, far));
            }
        }
    }

    private static void lineBuilt() {
        of("Promise 4, line", "-3 it is BUILT.");
        refused("line(0, 5, 5) of the one built", -3, Edges::site, x -> x.line(0, 5, 5));
        refused("line(0, 640, 0), its own point", -3, Edges::site, x -> x.line(0, 640, 0));
        refused("line(2, 5, 5) of the last built", -3, Edges::built, x -> x.line(2, 5, 5));
        RingPieces x = site();
        due("line(1, 1920, 643) of the first planned", 1, x.line(1, 1920, 643));
        due("off(1)", 9, x.off(1));
        due("state(1)", 1, x.state(1));
        due("line(2, 2562, 1920) of the last planned", 1, x.line(2, 2562, 1920));
        due("off(2)", 4, x.off(2));
        due("line(3, 5, 5) of the open one", 1, x.line(3, 5, 5));
        due("line(3, 5, 5) of the one behind the last built", 1, built().line(3, 5, 5));
    }

    private static void lineNoSuchRing() {
        of("Promise 4, line", "ArrayIndexOutOfBounds: there is no such ring.");
        for (int ring : new int[] {-1, 4, LEAST, MOST}) {
            thrown("line(" + ring + ", 0, 0)", Edges::site, x -> x.line(ring, 0, 0));
            thrown("line(" + ring + ", 10000001, 0)", Edges::site, x -> x.line(ring, 10000001, 0));
        }
        thrown("line(24, 0, 0) of 4", Edges::empty, x -> x.line(24, 0, 0));
        due("line(23, 0, 0) of 24", 1, new RingPieces(24).line(23, 0, 0));
        due("line(24, 0, 0) of 24", THROWS, answer(new RingPieces(24), x -> x.line(24, 0, 0)));
        due("line(1, 0, 0) of 1", THROWS, answer(new RingPieces(0), x -> x.line(1, 0, 0)));
    }

    private static void apartRange() {
        of("Promise 5, apart", "APART: 1.");
        RingPieces x = site();
        for (int apart = 1; apart <= 16; apart++) {
            due("apart(" + apart + ")", 1, x.apart(apart));
            due("count(4)", apart, x.count(4));
        }
        due("count(2), still planned", 2, x.count(2));
    }

    private static void apartOutside() {
        of("Promise 5, apart", "-2 it is not 1 .. 16.");
        for (int apart : new int[] {0, -1, 17, -16, LEAST, MOST}) {
            refused("apart(" + apart + ")", -2, Edges::site, x -> x.apart(apart));
        }
    }

    private static void allowWhetherNew() {
        of("Promise 6, allow", "whether that is new");
        for (int p = 0; p < 16; p++) {
            RingPieces x = empty();
            due("allow(" + p + ", true), as it is", false, x.allow(p, true));
            due("allow(" + p + ", false)", true, x.allow(p, false));
            due("count(6)", 15, x.count(6));
            due("allow(" + p + ", false) again", false, x.allow(p, false));
            due("count(6)", 15, x.count(6));
            due("allow(" + p + ", true)", true, x.allow(p, true));
            due("allow(" + p + ", true) again", false, x.allow(p, true));
            due("count(6)", 16, x.count(6));
        }
        RingPieces y = site();
        due("allow(4, false), where a planned one has its key", true, y.allow(4, false));
        due("state(1), still planned", 1, y.state(1));
    }

    private static void allowNoneAndAll() {
        of("Promise 6, allow", "Whether keys may be at a position");
        RingPieces x = even(2, 2);
        for (int p = 0; p < 16; p++) {
            x.allow(p, false);
        }
        due("count(6), none", 0, x.count(6));
        due("run(), none", 0, x.run());
        for (int p = 15; p >= 0; p--) {
            x.allow(p, true);
            due("count(6)", 16 - p, x.count(6));
            due("run()", Math.min(2, 16 - p), x.run());
            due("turnOf(0)", p, x.turnOf(0));
        }
    }

    private static void allowNoneSuch() {
        of("Promise 6, allow", "false if there is none such");
        for (int p : new int[] {-1, 16, 17, LEAST, MOST}) {
            refused("allow(" + p + ", false)", 0, Edges::site, x -> x.allow(p, false) ? 1 : 0);
            refused("allow(" + p + ", true)", 0, Edges::site, x -> x.allow(p, true) ? 1 : 0);
        }
    }

    private static void lookRange() {
        of("Promise 7, look", "LOOK: 1.");
        RingPieces x = site();
        for (int look : new int[] {1, 2, 2, 1}) {
            due("look(" + look + ")", 1, x.look(look));
            due("count(5)", look, x.count(5));
        }
        due("count(2), still planned", 2, x.count(2));
    }

    private static void lookOutside() {
        of("Promise 7, look", "-2 it is not 1 or 2.");
        for (int look : new int[] {0, -1, 3, LEAST, MOST}) {
            refused("look(" + look + ")", -2, Edges::dearFirstStep, x -> x.look(look));
            refused("look(" + look + ") with LOOK 2", -2, EdgesOfChangesTest::lookingAhead, x -> x.look(look));
        }
    }

    private static RingPieces lookingAhead() {
        RingPieces x = dearFirstStep();
        x.look(2);
        return x;
    }

    private static void runNoneAndAll() {
        of("Promise 8, run", "A PLAN: how many rings are PLANNED.");
        due("run() without kinds", 0, empty().run());
        due("run() with none in stock", 0, even(4, 0).run());
        due("run() with all in stock", 4, even(4, 4).run());
        due("run() of 24", 24, even(24, 99).run());
        RingPieces x = even(4, 4);
        for (int built = 1; built <= 4; built++) {
            x.run();
            x.build(1);
            due("run(), " + built + " built", 4 - built, x.run());
            due("count(2)", 4 - built, x.count(2));
        }
    }

    private static void buildOneAndAll() {
        of("Promise 9, build", "The next n rings that are PLANNED are BUILT");
        RingPieces x = planned();
        x.build(1);
        due("state(0)", 2, x.state(0));
        due("state(1)", 1, x.state(1));
        x.build(2);
        due("state(2), the last planned", 2, x.state(2));
        due("state(3), open", 0, x.state(3));
        due("count(2)", 0, x.count(2));
        due("x behind ring 2, as planned", 2560, x.place(2, 0));
        due("left(0), as planned", 0, x.left(0));
        RingPieces y = even(24, 24);
        y.run();
        y.build(24);
        due("state(0) of 24", 2, y.state(0));
        due("state(23) of 24", 2, y.state(23));
    }

    private static void buildHowMany() {
        of("Promise 9, build", "how many are");
        RingPieces x = planned();
        due("build(1)", 1, x.build(1));
        due("build(2): BUILT are all three", 3, x.build(2));
        RingPieces y = even(24, 24);
        y.run();
        due("build(24)", 24, y.build(24));
    }

    private static void buildBelowOne() {
        of("Promise 9, build", "-2 n is below 1");
        for (int n : new int[] {0, -1, LEAST}) {
            refused("build(" + n + ")", -2, Edges::site, x -> x.build(n));
            refused("build(" + n + ") with none planned", -2, Edges::built, x -> x.build(n));
        }
    }

    private static void buildTooMany() {
        of("Promise 9, build", "-3 there are not so many");
        for (int n : new int[] {3, 4, 5, MOST}) {
            refused("build(" + n + ") with two planned", -3, Edges::site, x -> x.build(n));
        }
        refused("build(4) with three planned", -3, Edges::planned, x -> x.build(4));
        due("build(3) with three planned", 3, planned().build(3));
        refused("build(1) with none planned", -3, Edges::empty, x -> x.build(1));
        refused("build(1) with all planned built", -3, Edges::built, x -> x.build(1));
    }

    private static void surveyRange() {
        of("Promise 10, survey", "each -100000 .. 100000, from where it was");
        int[][] moves = {{100000, -100000}, {-100000, 100000}, {99999, 0}, {0, -99999}};
        for (int[] m : moves) {
            RingPieces x = built();
            due("survey(0, " + m[0] + ", " + m[1] + ")", 3, x.survey(0, m[0], m[1]));
            due("x of 0", 640 + m[0], x.place(0, 0));
            due("y of 0", m[1], x.place(0, 1));
            due("off(0)", (long) m[0] * m[0] + (long) m[1] * m[1], x.off(0));
            x.survey(0, m[0], m[1]);
            due("x of 0, measured from where it was", 640 + 2 * m[0], x.place(0, 0));
            due("dx of 0, as before", 640, x.place(0, 2));
            due("dy of 0, as before", 0, x.place(0, 3));
        }
    }

    private static void surveyOutside() {
        of("Promise 10, survey", "-2;");
        for (int far : new int[] {100001, -100001, MOST, LEAST}) {
            for (int ring = 0; ring < 4; ring++) {
                int r = ring;
                refused("survey(" + r + ", " + far + ", 0)", -2, Edges::site, x -> x.survey(r, far, 0));
                refused("survey(" + r + ", 0, " + far + ")", -2, Edges::site, x -> x.survey(r, 0, far));
            }
        }
    }

    private static void surveyMovesBehind() {
        of("Promise 10, survey", "its PLACE and those of the rings behind it move by that");
        for (int ring = 0; ring < 3; ring++) {
            RingPieces x = built();
            x.survey(ring, 5, -7);
            long[][] at = {{640, 0}, {1920, 640}, {2560, 1920}};
            for (int other = 0; other < 3; other++) {
                int moved = other >= ring ? 1 : 0;
                due("x of " + other + " from " + ring + " on", at[other][0] + 5 * moved, x.place(other, 0));
                due("y of " + other + " from " + ring + " on", at[other][1] - 7 * moved, x.place(other, 1));
            }
        }
    }

    private static void surveyHowMany() {
        of("Promise 10, survey", "how many are BUILT from it on");
        for (int ring = 0; ring < 3; ring++) {
            due("survey(" + ring + ", 1, 1)", 3 - ring, built().survey(ring, 1, 1));
        }
        due("survey(0, 1, 1), two planned behind it", 1, site().survey(0, 1, 1));
    }

    private static void surveyOpensPlanned() {
        of("Promise 10, survey", "PLANNED ones are OPEN");
        for (int d : new int[] {0, 1}) {
            RingPieces x = site();
            due("survey(0, " + d + ", 0)", 1, x.survey(0, d, 0));
            due("count(2)", 0, x.count(2));
            due("state(1)", 0, x.state(1));
            due("state(2)", 0, x.state(2));
            due("kindOf(1)", -1, x.kindOf(1));
            due("left(0), as they are open", 2, x.left(0));
            due("list(0, 1)", -1, x.list(0, 1));
            due("sum()", d, x.sum());
            due("count(1)", 1, x.count(1));
            due("count(7), no plan of its own", 1, x.count(7));
        }
    }

    private static void surveyNotBuilt() {
        of("Promise 10, survey", "-3 it is not BUILT.");
        refused("survey(1, 5, 5) of the first planned", -3, Edges::site, x -> x.survey(1, 5, 5));
        refused("survey(2, 5, 5) of the last planned", -3, Edges::site, x -> x.survey(2, 5, 5));
        refused("survey(3, 0, 0) of the open one", -3, Edges::site, x -> x.survey(3, 0, 0));
        refused("survey(3, 0, 0) behind the last built", -3, Edges::built, x -> x.survey(3, 0, 0));
        refused("survey(0, 0, 0) with none built", -3, Edges::planned, x -> x.survey(0, 0, 0));
        refused("survey(0, 0, 0) with all open", -3, Edges::empty, x -> x.survey(0, 0, 0));
    }

    private static void surveyNoSuchRing() {
        of("Promise 10, survey", "ArrayIndexOutOfBounds: there is no such ring.");
        for (int ring : new int[] {-1, 4, LEAST, MOST}) {
            thrown("survey(" + ring + ", 0, 0)", Edges::site, x -> x.survey(ring, 0, 0));
            thrown("survey(" + ring + ", 0, 100001)", Edges::site, x -> x.survey(ring, 0, 100001));
        }
        RingPieces y = even(24, 24);
        y.run();
        y.build(24);
        due("survey(23, 1, 1) of 24", 1, y.survey(23, 1, 1));
        due("survey(24, 1, 1) of 24", THROWS, answer(y, x -> x.survey(24, 1, 1)));
    }

    private static void replaceMovesBehind() {
        of("Promise 11, replace", "those behind it are where they are then: 1.");
        RingPieces first = site();
        due("replace(1, 1), the first planned", 1, first.replace(1, 1));
        long[][] at = {{640, 0, 640, 0}, {1920, 1280, 640, 1280}, {2560, 3840, 0, 1280}};
        RingPieces last = site();
        due("replace(2, 1), the last planned", 1, last.replace(2, 1));
        long[][] atLast = {{640, 0, 640, 0}, {1920, 640, 640, 640}, {1920, 1920, -640, 640}};
        for (int ring = 0; ring < 3; ring++) {
            for (int axis = 0; axis < 4; axis++) {
                due("place(" + ring + ", " + axis + "), the first replaced", at[ring][axis], first.place(ring, axis));
                due("place(" + ring + ", " + axis + "), the last replaced", atLast[ring][axis], last.place(ring, axis));
            }
        }
    }

    private static void replaceKindAtItsPosition() {
        of("Promise 11, replace", "A PLANNED ring becomes one of another kind, at its position");
        RingPieces first = site();
        first.replace(1, 1);
        due("kindOf(1)", 1, first.kindOf(1));
        due("turnOf(1)", 4, first.turnOf(1));
        due("state(1)", 1, first.state(1));
        due("kindOf(2), as it was", 0, first.kindOf(2));
        due("turnOf(2), as it was", 8, first.turnOf(2));
        due("state(2), as it was", 1, first.state(2));
        due("left(0), one more", 1, first.left(0));
        due("left(1), one less", 1, first.left(1));
        RingPieces late = site();
        late.apart(1);
        late.allow(4, false);
        due("replace(1, 1), its position no more allowed", 1, late.replace(1, 1));
        due("turnOf(1)", 4, late.turnOf(1));
        RingPieces only = even(1, 1);
        only.kind(10, 1);
        only.run();
        due("replace(0, 1), the only ring", 1, only.replace(0, 1));
        due("x of 0", 640, only.place(0, 0));
    }

    private static void replaceUnknownKind() {
        of("Promise 11, replace", "-1 no such kind");
        for (int kind : new int[] {-1, 3, 4, LEAST, MOST}) {
            for (int ring = 0; ring < 4; ring++) {
                int r = ring;
                refused("replace(" + r + ", " + kind + ")", -1, Edges::site, x -> x.replace(r, kind));
            }
        }
        refused("replace(0, 0) without kinds", -1, Edges::empty, x -> x.replace(0, 0));
        refused("replace(0, 4) with 4 kinds", -1, Edges::full, x -> x.replace(0, 4));
        RingPieces y = site();
        y.kind(7, 1);
        due("replace(1, 3), the fourth kind", 1, y.replace(1, 3));
    }

    private static void replaceNotPlanned() {
        of("Promise 11, replace", "-3 it is not PLANNED");
        refused("replace(0, 1) of the one built", -3, Edges::site, x -> x.replace(0, 1));
        refused("replace(3, 1) of the open one", -3, Edges::site, x -> x.replace(3, 1));
        refused("replace(2, 1) of the last built", -3, Edges::built, x -> x.replace(2, 1));
        refused("replace(3, 1) behind the last built", -3, Edges::built, x -> x.replace(3, 1));
        refused("replace(0, 0) with all open", -3, Edges::full, x -> x.replace(0, 0));
        due("replace(0, 1) of the first planned, none built", 1, planned().replace(0, 1));
    }

    private static RingPieces siteWithMore() {
        RingPieces x = site();
        x.more(0, 1);
        return x;
    }

    private static void replaceOfThatKind() {
        of("Promise 11, replace", "or is of that kind");
        refused("replace(1, 0), one left", -3, EdgesOfChangesTest::siteWithMore, x -> x.replace(1, 0));
        refused("replace(2, 0), one left", -3, EdgesOfChangesTest::siteWithMore, x -> x.replace(2, 0));
        refused("replace(1, 0), none left", -3, Edges::site, x -> x.replace(1, 0));
    }

    private static void replaceNoneLeft() {
        of("Promise 11, replace", "or none of that is left.");
        refused("replace(1, 2)", -3, Edges::site, x -> x.replace(1, 2));
        refused("replace(2, 2)", -3, Edges::site, x -> x.replace(2, 2));
        RingPieces y = site();
        y.more(2, 1);
        due("replace(1, 2), the last one left", 1, y.replace(1, 2));
        due("left(2)", 0, y.left(2));
        due("replace(2, 2), none left", -3, y.replace(2, 2));
        due("replace(2, 1), the next to the last", 1, y.replace(2, 1));
        due("replace(1, 1), the last", 1, y.replace(1, 1));
        due("left(1)", 0, y.left(1));
        due("replace(2, 2), given back", 1, y.replace(2, 2));
        due("replace(1, 0), back again", 1, y.replace(1, 0));
        due("left(0)", 1, y.left(0));
    }

    private static void replaceNoSuchRing() {
        of("Promise 11, replace", "ArrayIndexOutOfBounds: there is no such ring.");
        for (int ring : new int[] {-1, 4, LEAST, MOST}) {
            thrown("replace(" + ring + ", 1)", Edges::site, x -> x.replace(ring, 1));
            thrown("replace(" + ring + ", 3), no such kind either", Edges::site, x -> x.replace(ring, 3));
        }
        RingPieces y = even(24, 24);
        y.kind(10, 1);
        y.run();
        due("replace(23, 1) of 24", 1, y.replace(23, 1));
        due("replace(24, 1) of 24", THROWS, answer(y, x -> x.replace(24, 1)));
    }
}
