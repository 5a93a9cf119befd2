/** Promises 16 to 21, what would be, sentence by sentence. */
public final class WouldTest extends SentenceTests {
    private static final String ALL_ROWS = "-0;-1;-2;-3;-4;-5;-6;";
    private static final String ALL_WALLS = ALL_ROWS + "/0;/1;/2;/3;/4;/5;/6;/7;/8;/9;/10;";

    // ---- 16 would

    @Sentence(promise = 16, says = "LOSS of a PILLAR: how many would be crushed (what 0)")
    void wouldCrush() {
        PillarRuns x = mine(THREE_CORNERS);
        stays("all", x, () -> x.would(2, 0), 3);
        x.strength(0, 999);
        stays("itself alone", x, () -> x.would(2, 0), 1);
        x.strength(1, 47);
        stays("itself and one that gets more", x, () -> x.would(2, 0), 2);
        PillarRuns y = mine("p 0 0 1;p 7 11 999;");
        stays("a run that comes anyway counts, too", y, () -> y.would(1, 0), 2);
        PillarRuns full = mine(FIRST_ROW);
        stays("the twelfth", full, () -> full.would(11, 0), 1);
        PillarRuns crushed = mine("p 0 0 999;p 0 1 999;p 0 2 999;x 1;");
        stays("those crushed before count not", crushed, () -> crushed.would(0, 0), 1);
    }

    @Sentence(promise = 16, says = "CELLS FALLEN then (1)")
    void wouldFall() {
        PillarRuns x = mine(THREE_CORNERS);
        stays("all", x, () -> x.would(2, 1), 96);
        x.strength(0, 999);
        stays("none", x, () -> x.would(2, 1), 0);
        x.wall(0, 3, 1);
        stays("its room", x, () -> x.would(2, 1), 48);
        x.loses(2);
        stays("fallen before count, too", x, () -> x.would(1, 1), 48);
        PillarRuns y = mine("p 0 0 9;" + ALL_WALLS);
        stays("a room of one cell, the others have none", y, () -> y.would(0, 1), 96);
    }

    @Sentence(promise = 16, says = "BAD")
    void wouldBad() {
        PillarRuns x = mine(THREE_CORNERS + "x 2;");
        int[][] bad = {{-1, 0}, {3, 0}, {0, -1}, {0, 2}, {11, 0}, {12, 0}, {LEAST, 0}, {MOST, 1}, {0, LEAST}, {0, MOST}};
        for (int[] b : bad) refused(b[0] + " " + b[1], x, BAD, () -> x.would(b[0], b[1]));
        refused("bad before no", x, BAD, () -> x.would(2, 2));
        PillarRuns full = mine(FIRST_ROW);
        refused("a thirteenth", full, BAD, () -> full.would(12, 0));
    }

    @Sentence(promise = 16, says = "NO: it is crushed")
    void wouldNo() {
        PillarRuns x = mine(THREE_CORNERS + "x 2;");
        refused("how many", x, NO, () -> x.would(2, 0));
        refused("cells", x, NO, () -> x.would(2, 1));
        x.mends();
        is("mended", x.would(2, 0), 3);
    }

    // ---- 17 worst

    @Sentence(promise = 17, says = "The standing PILLAR whose LOSS crushes most (what 0")
    void worstPillar() {
        PillarRuns x = mine(THREE_CORNERS);
        x.strength(2, 999);
        stays("the strong one", x, () -> x.worst(0), 2);
        does(x, "p 7 11 0;x 3;x 2;");
        stays("a crushed one is none", x, () -> x.worst(0), 0);
        PillarRuns full = mine(FIRST_ROW);
        full.strength(10, 8);
        stays("the twelfth brings the one beside it", full, () -> full.worst(0), 11);
        full.strength(8, 8);
        stays("one in the middle brings those on both sides", full, () -> full.worst(0), 9);
    }

    @Sentence(promise = 17, says = "of like ones the least")
    void worstOfLikeOnes() {
        PillarRuns x = mine(THREE_CORNERS);
        for (int p = 0; p < 3; p++) is("all alike", x.would(p, 0), 3);
        stays("the least", x, () -> x.worst(0), 0);
        PillarRuns full = mine(FIRST_ROW);
        stays("of twelve", full, () -> full.worst(0), 0);
        full.loses(0);
        stays("that stand", full, () -> full.worst(0), 1);
    }

    @Sentence(promise = 17, says = "NONE: none stands")
    void worstNone() {
        PillarRuns none = new PillarRuns();
        stays("no pillars", none, () -> none.worst(0), NONE);
        PillarRuns x = mine("p 0 0 9;p 0 1 9;x 0;x 1;");
        stays("crushed", x, () -> x.worst(0), NONE);
    }

    @Sentence(promise = 17, says = "how many (1; 0)")
    void worstHowMany() {
        PillarRuns none = new PillarRuns();
        stays("no pillars", none, () -> none.worst(1), 0);
        PillarRuns x = mine(THREE_CORNERS);
        stays("all", x, () -> x.worst(1), 3);
        x.loses(0);
        stays("none stands", x, () -> x.worst(1), 0);
        PillarRuns full = mine(FIRST_ROW);
        stays("itself alone", full, () -> full.worst(1), 1);
    }

    @Sentence(promise = 17, says = "BAD")
    void worstBad() {
        PillarRuns x = mine(THREE_CORNERS);
        int[] bad = {-1, 2, LEAST, MOST};
        for (int b : bad) refused("" + b, x, BAD, () -> x.worst(b));
    }

    // ---- 18 cut

    @Sentence(promise = 18, says = "By how much a standing PILLAR may be CUT at most, so that a RUN crushes no more than without.")
    void cutAtMost() {
        PillarRuns x = mine("p 0 0 100;");
        stays("to its load", x, () -> x.cut(0), 4);
        x.strength(0, 96);
        stays("none to spare", x, () -> x.cut(0), 0);
        x.strength(0, 95);
        stays("crushed anyway: all", x, () -> x.cut(0), 95);
        x.strength(0, 0);
        stays("crushed anyway: it has none", x, () -> x.cut(0), 0);
        x.strength(0, 999);
        stays("most strength", x, () -> x.cut(0), 903);
        x.draw(1, 0);
        stays("it bears nothing", x, () -> x.cut(0), 999);
        x.back();
        does(x, "p 7 11 0;");
        stays("what a run would bring counts", x, () -> x.cut(0), 903);
        stays("one that it crushes may lose all", x, () -> x.cut(1), 0);
        x.strength(1, 40);
        stays("all it has", x, () -> x.cut(1), 40);
    }

    @Sentence(promise = 18, says = "BAD")
    void cutBad() {
        PillarRuns x = mine(THREE_CORNERS);
        int[] bad = {-1, 3, 11, 12, LEAST, MOST};
        for (int b : bad) refused("" + b, x, BAD, () -> x.cut(b));
        PillarRuns full = mine(FIRST_ROW);
        refused("a thirteenth", full, BAD, () -> full.cut(12));
        is("the twelfth", full.cut(11), 991);
    }

    @Sentence(promise = 18, says = "NO: it is crushed")
    void cutNo() {
        PillarRuns x = mine(THREE_CORNERS + "x 2;");
        refused("crushed", x, NO, () -> x.cut(2));
        x.mends();
        is("mended", x.cut(2), 0);
    }

    // ---- 19 mending

    @Sentence(promise = 19,
            says = "The least k (0 .. 999) by which, were all standing PILLARS' STRENGTHS k more, a RUN crushed none")
    void mendingLeast() {
        PillarRuns x = mine("p 0 0 96;");
        stays("held", x, x::mending, 0);
        x.strength(0, 999);
        stays("more than held", x, x::mending, 0);
        x.strength(0, 95);
        stays("one", x, x::mending, 1);
        x.strength(0, 0);
        stays("all", x, x::mending, 96);
        does(x, "p 7 11 0;");
        stays("the one that lacks most", x, x::mending, 52);
        x.strength(0, 20);
        stays("the other then", x, x::mending, 44);
        does(x, "x 1;");
        stays("one bears all", x, x::mending, 76);
        does(x, "x 0;");
        stays("the crushed ones lack nothing", x, x::mending, 0);
        PillarRuns none = new PillarRuns();
        stays("no pillars", none, none::mending, 0);
        PillarRuns full = mine(FIRST_ROW);
        full.strength(11, 5);
        stays("the twelfth", full, full::mending, 3);
        full.weight(95, 9);
        is("asked for at once behind a change", full.mending(), 11);
    }

    /** No load is above 864, so some k is always enough. */
    @Sentence(promise = 19, says = "NONE: by none")
    void mendingNeverNone() {
        PillarRuns x = mine("p 0 0 0;");
        for (int cell = 0; cell < 96; cell++) x.weight(cell, 9);
        stays("most of all", x, x::mending, 864);
    }

    // ---- 20 bestWall

    @Sentence(promise = 20, says = "The WALL that is not there by which a RUN leaves most standing")
    void bestWallLeavesMost() {
        PillarRuns x = mine("p 3 0 8;p 3 11 88;");
        is("one bears too much", x.all(2), 1);
        stays("it stops the run", x, () -> x.bestWall(0), 10);
        x.wall(1, 0, 1);
        stays("it is there: another", x, () -> x.bestWall(0), 0);
        PillarRuns y = mine("p 0 0 999;p 7 11 8;");
        stays("the last one", y, () -> y.bestWall(0), 20);
        does(y, ALL_ROWS);
        stays("the rows' are there", y, () -> y.bestWall(0), 13);
        PillarRuns walled = mine("p 0 0 999;- 0;- 1;");
        stays("none that is there", walled, () -> walled.bestWall(0), 2);
    }

    @Sentence(promise = 20, says = "0 to 6 rows, 10 to 20 columns (what 0")
    void bestWallNumbers() {
        for (int left = 0; left < 18; left++) {
            PillarRuns x = mine(ALL_WALLS);
            int way = left < 7 ? 0 : 1, k = left < 7 ? left : left - 7;
            x.wall(way, k, 0);
            stays("one is left, " + way + " " + k, x, () -> x.bestWall(0), 10 * way + k);
        }
    }

    @Sentence(promise = 20, says = "of like ones the least")
    void bestWallOfLikeOnes() {
        PillarRuns none = new PillarRuns();
        stays("no pillars: all are alike", none, () -> none.bestWall(0), 0);
        none.wall(0, 0, 1);
        stays("0 is there", none, () -> none.bestWall(0), 1);
        does(none, ALL_ROWS);
        stays("the rows' are there", none, () -> none.bestWall(0), 10);
        PillarRuns x = mine("p 0 0 999;p 7 11 999;");
        stays("all stand anyway", x, () -> x.bestWall(0), 0);
    }

    @Sentence(promise = 20, says = "NONE: all are there")
    void bestWallNone() {
        PillarRuns x = mine("p 0 0 9;" + ALL_WALLS);
        stays("which", x, () -> x.bestWall(0), NONE);
        stays("how many", x, () -> x.bestWall(1), NONE);
        x.wall(1, 10, 0);
        is("all but one", x.bestWall(1), 1);
    }

    @Sentence(promise = 20, says = {"how many would stand then (1", "NONE: all are there"})
    void bestWallHowMany() {
        PillarRuns none = new PillarRuns();
        stays("no pillars", none, () -> none.bestWall(1), 0);
        PillarRuns x = mine("p 3 0 8;p 3 11 88;");
        stays("both", x, () -> x.bestWall(1), 2);
        x.strength(1, 0);
        stays("one", x, () -> x.bestWall(1), 1);
        x.strength(0, 0);
        stays("none", x, () -> x.bestWall(1), 0);
        PillarRuns full = mine(FIRST_ROW);
        stays("twelve", full, () -> full.bestWall(1), 12);
        full.loses(0);
        stays("crushed ones stay crushed", full, () -> full.bestWall(1), 11);
    }

    @Sentence(promise = 20, says = "BAD")
    void bestWallBad() {
        PillarRuns x = mine(THREE_CORNERS);
        int[] bad = {-1, 2, LEAST, MOST};
        for (int b : bad) refused("" + b, x, BAD, () -> x.bestWall(b));
        PillarRuns walled = mine(ALL_WALLS);
        refused("all are there", walled, BAD, () -> walled.bestWall(2));
    }

    // ---- 21 bestCell

    @Sentence(promise = 21,
            says = "The CELL without a PILLAR on which a new one of STRENGTH s (0 .. 999) leaves, behind a RUN, most standing (what 0")
    void bestCellLeavesMost() {
        PillarRuns x = mine("p 0 0 48;");
        stays("one that takes half, and holds it", x, () -> x.bestCell(48, 0), 10);
        PillarRuns walled = mine(ALL_WALLS + "w 7 11 0;");
        stays("the last, of least strength", walled, () -> walled.bestCell(0, 0), 95);
        stays("the first, of most strength", walled, () -> walled.bestCell(999, 0), 0);
        does(walled, "p 0 0 9;p 0 1 0;x 1;");
        stays("not where one stands, nor a crushed one is", walled, () -> walled.bestCell(999, 0), 2);
    }

    @Sentence(promise = 21, says = "of like ones the first")
    void bestCellOfLikeOnes() {
        PillarRuns x = new PillarRuns();
        stays("all hold", x, () -> x.bestCell(96, 0), 0);
        stays("none holds", x, () -> x.bestCell(95, 0), 0);
        does(x, "p 0 0 999;");
        stays("the first that has none", x, () -> x.bestCell(999, 0), 1);
        x.strength(0, 0);
        stays("and so where none is left standing", x, () -> x.bestCell(0, 0), 1);
    }

    @Sentence(promise = 21, says = "how many with itself (1)")
    void bestCellHowMany() {
        PillarRuns x = new PillarRuns();
        stays("it holds all", x, () -> x.bestCell(96, 1), 1);
        stays("it is crushed", x, () -> x.bestCell(95, 1), 0);
        does(x, "p 0 0 48;");
        stays("both", x, () -> x.bestCell(48, 1), 2);
        does(x, "x 0;");
        stays("crushed ones stay crushed", x, () -> x.bestCell(999, 1), 1);
        PillarRuns full = mine(FIRST_ROW.substring(0, FIRST_ROW.length() - 10));
        is("eleven", full.all(0), 11);
        stays("a twelfth", full, () -> full.bestCell(999, 1), 12);
    }

    @Sentence(promise = 21, says = "NO: 12 PILLARS")
    void bestCellNo() {
        PillarRuns x = mine(FIRST_ROW);
        refused("which", x, NO, () -> x.bestCell(5, 0));
        refused("how many", x, NO, () -> x.bestCell(5, 1));
        x.loses(11);
        refused("crushed ones count", x, NO, () -> x.bestCell(5, 0));
    }

    @Sentence(promise = 21, says = "BAD")
    void bestCellBad() {
        PillarRuns x = mine(THREE_CORNERS);
        int[][] bad = {{-1, 0}, {1000, 0}, {0, -1}, {0, 2}, {LEAST, 0}, {MOST, 0}, {0, LEAST}, {0, MOST}};
        for (int[] b : bad) refused(b[0] + " " + b[1], x, BAD, () -> x.bestCell(b[0], b[1]));
        PillarRuns full = mine(FIRST_ROW);
        refused("bad before no, strength", full, BAD, () -> full.bestCell(1000, 0));
        refused("bad before no, what", full, BAD, () -> full.bestCell(5, 2));
    }

    public static void main(String[] args) throws Exception {
        new WouldTest().runAll();
    }
}
