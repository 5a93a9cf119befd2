/** The terms of the roof, of runs, of losses and of cuts, sentence by sentence. (Texts and states have tests of their own.) */
public final class TermsTest extends SentenceTests {
    @Sentence(promise = 0,
            says = {"An object is used for at most 512 calls after it has been made", "what later calls answer is free."})
    void the512thCall() {
        PillarRuns x = new PillarRuns();
        int[] weights = new int[96];
        java.util.Arrays.fill(weights, 1);
        for (int call = 1; call <= 511; call++) {
            weights[call % 96] = call % 10;
            x.weight(call % 96, call % 10);
        }
        int sum = 0;
        for (int weight : weights) sum += weight;
        is("the 512th", x.all(5), sum);
        for (int call = 513; call <= 2000; call++) x.pillar(call % 96, 5);
        is("later ones end", x.back() >= NO ? 1 : 0, 1);
    }

    // ---- the roof

    @Sentence(promise = 0, says = "THE ROOF has 8 rows of 12 CELLS (CELL 12 r and c)")
    void cellsGoByRows() {
        PillarRuns x = mine("p 0 11 999;p 2 0 999;");
        is("cell of row 0, column 11", x.of(0, 0), 11);
        is("cell of row 2, column 0", x.of(1, 0), 24);
        is("cell 12 is in row 1, far from the end of row 0", x.rests(12), 1);
        is("cell 23 is in row 1, at its end", x.rests(23), 0);
        x.wall(0, 0, 1);
        is("the end of a row is not beside the next one's start", x.beside(0, 1), 0);
        PillarRuns last = mine("p 7 11 5;");
        is("last cell", last.of(0, 0), 95);
        is("rests there", last.rests(95), 0);
        is("no cell behind it", last.rests(96), BAD);
        is("none before the first", last.rests(-1), BAD);
    }

    @Sentence(promise = 0, says = {"each of a WEIGHT (0 ..", "9; 1 at first)"})
    void weightsOfCells() {
        PillarRuns x = new PillarRuns();
        for (int cell = 0; cell < 96; cell++) is("at first", x.weight(cell, cell % 2 == 0 ? 0 : 9), 1);
        is("half of 0, half of 9", x.all(5), 48 * 9);
        is("below 0", x.weight(0, -1), BAD);
        is("above 9", x.weight(0, 10), BAD);
        is("as it was", x.weight(0, 1), 0);
    }

    @Sentence(promise = 0, says = "PILLARS 0 .. 11, as they come")
    void numbersOfPillars() {
        PillarRuns x = new PillarRuns();
        for (int p = 0; p < 12; p++) is("pillar " + p, x.pillar(95 - 7 * p, p), p);
        for (int p = 0; p < 12; p++) is("its cell", x.of(p, 0), 95 - 7 * p);
        is("no more", x.pillar(1, 1), FULL);
        is("no 13th", x.of(12, 0), BAD);
        is("none below 0", x.of(-1, 0), BAD);
    }

    @Sentence(promise = 0, says = "a CELL each (no two on one)")
    void noTwoOnOneCell() {
        PillarRuns x = mine("p 4 2 9;");
        is("by a call", x.pillar(50, 9), NO);
        fault(x, "p 4 2 9;", 0);
        PillarRuns y = mine("p 0 0 999;p 0 2 999;");
        is("nor by what would be best", y.bestCell(999, 0), 1);
    }

    @Sentence(promise = 0, says = "a STRENGTH (0 .. 999)")
    void strengthsOfPillars() {
        PillarRuns x = new PillarRuns();
        is("least", x.pillar(0, 0), 0);
        is("most", x.pillar(1, 999), 1);
        is("below", x.pillar(2, -1), BAD);
        is("above", x.pillar(2, 1000), BAD);
        is("to most", x.strength(0, 999), 0);
        is("to least", x.strength(1, 0), 999);
        is("to above", x.strength(0, 1000), BAD);
        is("to below", x.strength(0, -1), BAD);
        is("as it was", x.of(0, 1), 999);
    }

    @Sentence(promise = 0, says = "standing or crushed")
    void standingOrCrushed() {
        PillarRuns x = mine("p 0 0 0;");
        is("stands at first", x.of(0, 2), 1);
        x.runs();
        is("crushed", x.of(0, 2), 0);
        is("a crushed one is a pillar yet", x.all(0), 1);
        is("on its cell", x.of(0, 0), 0);
    }

    // ---- walls and rooms

    @Sentence(promise = 0, says = "WALLS: behind some rows (below row r and above r and 1, r 0 .. 6)")
    void wallsBehindRows() {
        for (int r = 0; r <= 6; r++) {
            PillarRuns x = new PillarRuns();
            x.pillar(12 * r, 99);
            x.wall(0, r, 1);
            is("row " + r, x.rests(12 * r + 11), 0);
            is("first row", x.rests(0), 0);
            is("row " + (r + 1), x.rests(12 * r + 12), NONE);
            is("last row", x.rests(95), NONE);
        }
        is("none below the last row", new PillarRuns().wall(0, 7, 1), BAD);
        is("none above the first", new PillarRuns().wall(0, -1, 1), BAD);
    }

    @Sentence(promise = 0, says = "and some columns (right of column c, 0 .. 10)")
    void wallsBehindColumns() {
        for (int c = 0; c <= 10; c++) {
            PillarRuns x = new PillarRuns();
            x.pillar(c, 99);
            x.wall(1, c, 1);
            is("column " + c, x.rests(84 + c), 0);
            is("first column", x.rests(84), 0);
            is("column " + (c + 1), x.rests(c + 1), NONE);
            is("last column", x.rests(95), NONE);
        }
        is("none right of the last column", new PillarRuns().wall(1, 11, 1), BAD);
        is("none left of the first", new PillarRuns().wall(1, -1, 1), BAD);
    }

    @Sentence(promise = 0, says = "none at first.")
    void noWallsAtFirst() {
        PillarRuns x = new PillarRuns();
        is("walls", x.told(4), 0);
        is("rooms", x.all(6), 1);
        for (int k = 0; k <= 6; k++) is("behind row " + k, x.wall(0, k, 0), 0);
        for (int k = 0; k <= 10; k++) is("behind column " + k, x.wall(1, k, 0), 0);
        x.pillar(0, 5);
        is("all rest on one", x.of(0, 4), 96);
    }

    @Sentence(promise = 0, says = "CELLS with no WALL between them are of one ROOM (so ROOMS are rectangles).")
    void roomsAreRectangles() {
        PillarRuns x = mine("p 3 4 99;- 1;- 5;/ 2;/ 8;");
        for (int cell = 0; cell < 96; cell++) {
            int r = cell / 12, c = cell % 12;
            boolean inside = r >= 2 && r <= 5 && c >= 3 && c <= 8;
            is("cell " + cell, x.rests(cell), inside ? 0 : NONE);
        }
        is("rooms", x.all(6), 9);
        is("cells of it", x.of(0, 4), 24);
    }

    // ---- what rests on what

    @Sentence(promise = 0,
            says = "A CELL RESTS on the standing PILLAR of its ROOM that is nearest (rows and columns apart, together)")
    void restsOnTheNearest() {
        PillarRuns x = mine("p 2 2 99;p 0 3 99;");
        is("3 apart, not 2 and 2", x.rests(0), 1);
        is("rows apart count", x.rests(36), 0);
        is("columns apart count", x.rests(11), 1);
        x.wall(1, 2, 1);
        is("of its room alone", x.rests(0), 0);
        does(x, "x 0;p 7 0 99;");
        is("standing alone, however far", x.rests(0), 2);
        is("even on the crushed one's cell", x.rests(26), 2);
        PillarRuns far = mine("p 7 11 99;");
        is("the furthest of all", far.rests(0), 0);
    }

    @Sentence(promise = 0, says = "of like ones the least")
    void restsOfLikeOnesOnTheLeast() {
        PillarRuns x = mine("p 0 0 99;p 0 2 99;p 2 2 99;");
        is("between the first two", x.rests(1), 0);
        is("between all three", x.rests(13), 0);
        does(x, "x 0;");
        is("of those that stand", x.rests(13), 1);
        PillarRuns y = mine("p 0 2 99;p 0 0 99;");
        is("whichever came first", y.rests(1), 0);
        is("nearer all the same", y.rests(0), 1);
    }

    @Sentence(promise = 0, says = "is there none in its ROOM, it is FALLEN.")
    void fallenCells() {
        PillarRuns none = new PillarRuns();
        is("no pillars", none.all(3), 96);
        PillarRuns x = mine("p 0 0 999;- 0;");
        is("the room without one", x.rests(12), NONE);
        is("its cells", x.all(3), 84);
        does(x, "x 0;");
        is("a crushed one alone", x.rests(0), NONE);
        is("all cells", x.all(3), 96);
    }

    @Sentence(promise = 0, says = "LOAD of a standing PILLAR: WEIGHTS of all CELLS that rest on it.")
    void loads() {
        PillarRuns x = mine("p 0 0 0;/ 0;");
        is("its column", x.of(0, 3), 8);
        for (int r = 0; r < 8; r++) x.weight(12 * r, 9);
        is("most of eight", x.of(0, 3), 72);
        x.weight(1, 9);
        is("not what is behind the wall", x.of(0, 3), 72);
        x.wall(1, 0, 0);
        is("all", x.of(0, 3), 72 + 88 + 8);
        x.draw(1, 0);
        is("nothing weighs", x.of(0, 3), 0);
        is("but rests on it", x.of(0, 4), 96);
    }

    @Sentence(promise = 0, says = "It is TOO MUCH, if it is above STRENGTH.")
    void tooMuch() {
        PillarRuns x = mine("p 0 0 96;");
        is("as strength", x.all(2), 0);
        is("no run", x.runs(), 0);
        x.weight(95, 2);
        is("one above", x.all(2), 1);
        is("a run", x.runs(), 1);
        PillarRuns y = mine("p 0 0 0;/ 0;- 0;w 0 0 0;");
        is("nothing on one of no strength", y.all(2), 0);
        is("it holds", y.runs(), 0);
        PillarRuns heavy = mine("p 0 0 864;");
        for (int cell = 0; cell < 96; cell++) heavy.weight(cell, 9);
        is("the heaviest roof, just held", heavy.all(2), 0);
        heavy.strength(0, 863);
        is("and not", heavy.all(2), 1);
    }

    // ---- runs

    @Sentence(promise = 0, says = "A RUN: as long as a standing PILLAR's LOAD is TOO MUCH, such PILLARS are crushed")
    void runGoesOnToItsEnd() {
        PillarRuns x = new PillarRuns();
        for (int p = 0; p < 12; p++) x.pillar(p, 8 * p + 7);
        is("one bears too much", x.all(2), 1);
        is("it brings all down", x.runs(), 12);
        x.mends();
        x.strength(6, 56);
        is("one that just holds stops it", x.runs(), 6);
        is("it bears seven columns", x.of(6, 3), 56);
        is("none bears too much", x.all(2), 0);
    }

    /** A mine of ten pillars and drawn weights of which a run leaves some. */
    private static PillarRuns drawnMine(int seed) {
        PillarRuns x = new PillarRuns();
        x.draw(seed, 9);
        for (int p = 0; p < 10; p++) x.pillar((17 * p + seed) % 96, 20 + (seed * (p + 3)) % 180);
        return x;
    }

    private static int lastTooMuch(PillarRuns x) {
        for (int p = 9; p >= 0; p--) {
            int spare = x.of(p, 5);
            if (spare < 0 && spare != -10000) return p;
        }
        return NONE;
    }

    /** Crushes one, by an order that makes no run, and sees to it that no other bears less. */
    private void crushOne(PillarRuns x, int p) {
        int[] before = new int[10];
        for (int q = 0; q < 10; q++) before[q] = x.of(q, 3);
        does(x, "x" + p + ";");
        for (int q = 0; q < 10; q++) {
            if (x.of(q, 2) == 1) is("load of " + q + " becomes no less", x.of(q, 3) >= before[q] ? 1 : 0, 1);
        }
    }

    @Sentence(promise = 0, says = "what is left at the end is told by no order"
            + " (a PILLAR's LOAD never becomes less by others that are crushed).")
    void orderTellsNothing() {
        int someLeft = 0;
        for (int seed = 1; seed <= 40; seed++) {
            PillarRuns atOnce = drawnMine(seed), oneByOne = drawnMine(seed);
            int crushed = 0;
            for (int p = lastTooMuch(oneByOne); p != NONE; p = lastTooMuch(oneByOne)) {
                crushOne(oneByOne, p);
                crushed++;
            }
            is("crushed, seed " + seed, atOnce.runs(), crushed);
            for (int p = 0; p < 10; p++) is("pillar " + p + ", seed " + seed, atOnce.of(p, 2), oneByOne.of(p, 2));
            if (crushed > 0 && crushed < 10) someLeft++;
        }
        is("runs that stop are among them", someLeft > 0 ? 1 : 0, 1);
    }

    @Sentence(promise = 0, says = "WAVES: at each all that are TOO MUCH at once.")
    void wavesAreAllAtOnce() {
        PillarRuns x = mine("p 0 0 8;p 0 1 7;p 0 10 95;p 0 11 7;");
        is("two bear too much", x.all(2), 2);
        x.runs();
        is("they are the first wave", x.wave(2, 1), 2);
        is("one of them", x.wave(1, 1), 1);
        is("the other", x.wave(1, 3), 1);
        is("the next", x.wave(1, 0), 2);
        is("the last", x.wave(1, 2), 3);
        is("waves", x.wave(0, 0), 3);
    }

    // ---- what a pillar has to spare

    @Sentence(promise = 0, says = "SPARE of a standing PILLAR: STRENGTH less LOAD.")
    void spare() {
        PillarRuns x = mine("p 0 0 97;");
        is("one", x.of(0, 5), 1);
        x.strength(0, 96);
        is("none", x.of(0, 5), 0);
        x.strength(0, 95);
        is("one too little", x.of(0, 5), -1);
        x.strength(0, 999);
        x.draw(1, 0);
        is("most", x.of(0, 5), 999);
        x.strength(0, 0);
        for (int cell = 0; cell < 96; cell++) x.weight(cell, 9);
        is("least", x.of(0, 5), -864);
    }

    @Sentence(promise = 0, says = "LOSS of a PILLAR: it is crushed, then a RUN.")
    void loss() {
        PillarRuns x = mine(THREE_CORNERS);
        is("no run without it", x.all(2), 0);
        is("it and those of the run", x.loses(2), 3);
        x.mends();
        x.strength(0, 48);
        is("those that just hold are left", x.loses(2), 1);
        is("two stand", x.all(1), 2);
    }

    /** The cut that is told is made, and one more: the run of the first crushes no more than without, that of the second does. */
    private void cutsAreTrue(String orders) {
        PillarRuns x = mine(orders);
        int pillars = x.all(0);
        int without = x.runs();
        x.back();
        for (int p = 0; p < pillars; p++) {
            int strength = x.of(p, 1), cut = x.cut(p);
            is("a cut within its strength", cut >= 0 && cut <= strength ? 1 : 0, 1);
            x.strength(p, strength - cut);
            is("the cut of " + p, x.runs(), without);
            x.back();
            if (cut < strength) {
                x.strength(p, strength - cut - 1);
                is("one more of " + p, x.runs() > without ? 1 : 0, 1);
                x.back();
                x.back();
            }
            x.back();
        }
    }

    @Sentence(promise = 0, says = "CUT of a PILLAR by k (0 to its STRENGTH): its STRENGTH is k less.")
    void cuts() {
        cutsAreTrue(THREE_CORNERS);
        cutsAreTrue("p 0 0 0;p 7 11 999;");
        cutsAreTrue("p 0 0 30;p 0 11 60;p 7 0 40;p 7 11 35;p 3 5 20;- 5;");
        cutsAreTrue(FIRST_ROW);
        cutsAreTrue("p 0 0 5;p 0 1 50;p 0 2 3;p 7 11 70;/ 6;w 0 0 9;");
    }

    @Sentence(promise = 0, says = "what would be (all stays)")
    void whatWouldBeStays() {
        PillarRuns x = mine("p 0 0 1;p 0 11 999;p 7 0 96;");
        x.runs();
        is("a run was, which stays the last one", x.wave(0, 0), 1);
        for (int p = 1; p <= 2; p++) {
            int asked = p;
            stays("would crush", x, () -> x.would(asked, 0), 1);
            stays("would fall", x, () -> x.would(asked, 1), 0);
        }
        stays("worst", x, () -> x.worst(0), 1);
        stays("worst, how many", x, () -> x.worst(1), 1);
        stays("cut", x, () -> x.cut(2), 52);
        stays("mending", x, x::mending, 0);
        stays("bestWall", x, () -> x.bestWall(0), 0);
        stays("bestWall, how many", x, () -> x.bestWall(1), 2);
        stays("bestCell", x, () -> x.bestCell(999, 0), 1);
        stays("bestCell, how many", x, () -> x.bestCell(999, 1), 3);
    }

    public static void main(String[] args) throws Exception {
        new TermsTest().runAll();
    }
}
