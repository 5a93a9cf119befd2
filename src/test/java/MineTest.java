import java.math.BigInteger;

/** Promises 1 to 12, the mine, sentence by sentence. */
public final class MineTest extends SentenceTests {
    // ---- 1 a new object

    @Sentence(promise = 1, says = "As told")
    void newObjectIsAsTold() {
        PillarRuns x = new PillarRuns();
        int[] all = {0, 0, 0, 96, 96, 96, 1, 0};
        for (int what = 0; what <= 7; what++) is("all " + what, x.all(what), all[what]);
        for (int what = 0; what <= 5; what++) is("told " + what, x.told(what), 0);
        is("waves", x.wave(0, 0), 0);
        is("no state to go back to", x.back(), NO);
        is("the text is empty", x.does(), -10);
    }

    @Sentence(promise = 1, says = "no PILLARS")
    void newObjectHasNoPillars() {
        PillarRuns x = new PillarRuns();
        is("how many", x.all(0), 0);
        is("pillar 0", x.of(0, 0), BAD);
        for (int cell = 0; cell < 96; cell++) is("rests " + cell, x.rests(cell), NONE);
        PillarRuns y = new PillarRuns();
        y.pillar(5, 5);
        is("objects share nothing", x.all(0), 0);
        is("nor does a later one", new PillarRuns().all(0), 0);
    }

    // ---- 2 pillar

    @Sentence(promise = 2, says = "A PILLAR: its number.")
    void pillarAnswersItsNumber() {
        PillarRuns x = new PillarRuns();
        is("last cell, most strength", x.pillar(95, 999), 0);
        is("first cell, least strength", x.pillar(0, 0), 1);
        is("cell of 0", x.of(0, 0), 95);
        is("strength of 0", x.of(0, 1), 999);
        is("cell of 1", x.of(1, 0), 0);
        is("strength of 1", x.of(1, 1), 0);
        is("it stands, with too much on it", x.of(1, 2), 1);
    }

    @Sentence(promise = 2, says = "S.")
    void pillarLeavesState() {
        PillarRuns x = new PillarRuns();
        leavesState("first", x, () -> x.pillar(0, 5), 0);
        x.pillar(95, 5);
        leavesState("second", x, () -> x.pillar(0, 5), 1);
        is("its cell is free again", x.pillar(0, 7), 1);
    }

    @Sentence(promise = 2, says = "BAD")
    void pillarBad() {
        PillarRuns x = mine("p 4 4 4;");
        int[][] bad = {{-1, 0}, {96, 0}, {1, -1}, {1, 1000}, {LEAST, 1}, {MOST, 1}, {1, LEAST}, {1, MOST}, {-1, 1000}};
        for (int[] b : bad) refused(b[0] + " " + b[1], x, BAD, () -> x.pillar(b[0], b[1]));
        refused("bad before no", x, BAD, () -> x.pillar(52, 1000));
        PillarRuns full = mine(FIRST_ROW);
        refused("bad before full, cell", full, BAD, () -> full.pillar(96, 5));
        refused("bad before full, strength", full, BAD, () -> full.pillar(50, -1));
    }

    @Sentence(promise = 2, says = "NO: there is one (standing or crushed) on that CELL")
    void pillarNoWhereOneIs() {
        PillarRuns x = mine("p 7 11 999;p 0 0 0;x 1;");
        refused("standing", x, NO, () -> x.pillar(95, 3));
        is("it is as it was", x.of(0, 1), 999);
        refused("crushed", x, NO, () -> x.pillar(0, 3));
        is("it stays crushed", x.of(1, 2), 0);
        PillarRuns full = mine(FIRST_ROW);
        refused("no before full", full, NO, () -> full.pillar(11, 9));
        x.anew();
        is("behind anew the cell is free", x.pillar(95, 3), 0);
    }

    @Sentence(promise = 2, says = "FULL: 12")
    void pillarFullAtTwelve() {
        PillarRuns x = mine(FIRST_ROW);
        x.back();
        for (int p = 0; p < 11; p++) x.pillar(p, 9);
        is("the twelfth", x.pillar(95, 9), 11);
        refused("a thirteenth", x, FULL, () -> x.pillar(94, 9));
        x.loses(0);
        refused("crushed ones count", x, FULL, () -> x.pillar(94, 9));
        x.back();
        x.back();
        is("eleven again", x.pillar(94, 9), 11);
    }

    // ---- 3 weight

    @Sentence(promise = 3, says = "WEIGHT of a CELL: what it was.")
    void weightAnswersWhatItWas() {
        PillarRuns x = new PillarRuns();
        is("at first", x.weight(95, 9), 1);
        is("most", x.weight(95, 0), 9);
        is("least", x.weight(95, 5), 0);
        is("first cell", x.weight(0, 7), 1);
        is("all weights", x.all(5), 94 + 5 + 7);
        x.pillar(0, 1);
        is("load", x.of(0, 3), 106);
    }

    @Sentence(promise = 3, says = "S.")
    void weightLeavesState() {
        PillarRuns x = new PillarRuns();
        leavesState("another", x, () -> x.weight(50, 9), 1);
        leavesState("the same", x, () -> x.weight(50, 1), 1);
        is("as at first", x.weight(50, 3), 1);
    }

    @Sentence(promise = 3, says = "BAD")
    void weightBad() {
        PillarRuns x = new PillarRuns();
        int[][] bad = {{-1, 0}, {96, 0}, {0, -1}, {0, 10}, {LEAST, 0}, {MOST, 0}, {0, LEAST}, {0, MOST}};
        for (int[] b : bad) refused(b[0] + " " + b[1], x, BAD, () -> x.weight(b[0], b[1]));
    }

    // ---- 4 draw

    /** As the document tells it, with numbers that have no bound. */
    private static int[] drawn(int seed, int v) {
        int[] weights = new int[96];
        BigInteger x = BigInteger.valueOf(seed);
        for (int cell = 0; cell < 96; cell++) {
            x = x.multiply(BigInteger.valueOf(1103515245)).add(BigInteger.valueOf(12345)).mod(BigInteger.ONE.shiftLeft(31));
            weights[cell] = x.divide(BigInteger.valueOf(65536)).mod(BigInteger.valueOf(v + 1)).intValue();
        }
        return weights;
    }

    private static int sum(int[] weights) {
        int sum = 0;
        for (int weight : weights) sum += weight;
        return sum;
    }

    private void draws(int seed, int v) {
        PillarRuns x = new PillarRuns();
        int[] want = drawn(seed, v);
        is("seed " + seed + " to " + v, x.draw(seed, v), sum(want));
        for (int cell = 0; cell < 96; cell++) is("seed " + seed + ", cell " + cell, x.weight(cell, 0), want[cell]);
    }

    @Sentence(promise = 4, says = "WEIGHTS of all CELLS are drawn up to v (0 .. 9)")
    void drawsUpToV() {
        for (int v = 0; v <= 9; v++) {
            PillarRuns x = new PillarRuns();
            x.draw(4321, v);
            int most = 0, least = 9;
            for (int cell = 0; cell < 96; cell++) {
                int weight = x.weight(cell, 0);
                most = Math.max(most, weight);
                least = Math.min(least, weight);
            }
            is("most of up to " + v, most, v);
            is("least of up to " + v, least, 0);
        }
    }

    @Sentence(promise = 4, says = "X is SEED (0 .. 999999) at first")
    void drawsFromTheSeed() {
        draws(0, 9);
        draws(1, 9);
        draws(999999, 9);
        draws(999998, 1);
        PillarRuns x = new PillarRuns();
        x.draw(5, 9);
        is("each draw starts anew", x.draw(0, 9), sum(drawn(0, 9)));
    }

    @Sentence(promise = 4, says = "for each CELL X becomes X times 1103515245 and 12345, by 2147483648 what is left over")
    void drawsWrapAround() {
        PillarRuns x = new PillarRuns();
        x.draw(0, 9);
        // X is 12345, 1406932606, 654583775, 1449466924, 229283573, 1109335178, 1051550459, 1293799192 ..
        int[] first = {0, 8, 8, 7, 8, 7, 5, 1, 2, 0};
        for (int cell = 0; cell < first.length; cell++) is("cell " + cell, x.weight(cell, 0), first[cell]);
        draws(123456, 7);
    }

    @Sentence(promise = 4, says = "X by 65536 (cut), by v and 1 left over")
    void drawsAreCutAndLeftOver() {
        PillarRuns x = new PillarRuns();
        x.draw(0, 4);
        // 0, 21468, 9988, 22117, 3498, 16927
        int[] first = {0, 3, 3, 2, 3, 2};
        for (int cell = 0; cell < first.length; cell++) is("cell " + cell, x.weight(cell, 0), first[cell]);
        for (int v = 0; v <= 9; v++) is("to " + v, x.draw(77, v), sum(drawn(77, v)));
    }

    @Sentence(promise = 4, says = "all together")
    void drawAnswersAllTogether() {
        PillarRuns x = new PillarRuns();
        is("to 0", x.draw(3, 0), 0);
        is("none weighs", x.all(5), 0);
        is("to 9", x.draw(7, 9), 429);
        is("as all tells", x.all(5), 429);
    }

    @Sentence(promise = 4, says = "S.")
    void drawLeavesState() {
        PillarRuns x = new PillarRuns();
        leavesState("a draw", x, () -> x.draw(7, 9), 429);
        for (int cell = 0; cell < 96; cell++) is("as at first", x.weight(cell, 1), 1);
    }

    @Sentence(promise = 4, says = "BAD")
    void drawBad() {
        PillarRuns x = new PillarRuns();
        int[][] bad = {{-1, 5}, {1000000, 5}, {5, -1}, {5, 10}, {LEAST, 5}, {MOST, 5}, {5, LEAST}, {5, MOST}};
        for (int[] b : bad) refused(b[0] + " " + b[1], x, BAD, () -> x.draw(b[0], b[1]));
    }

    // ---- 5 strength

    @Sentence(promise = 5, says = "STRENGTH of a PILLAR: what it was.")
    void strengthAnswersWhatItWas() {
        PillarRuns x = mine("p 3 4 100;p 7 7 5;x 1;");
        is("was 100", x.strength(0, 0), 100);
        is("was least", x.strength(0, 999), 0);
        is("was most", x.strength(0, 8), 999);
        is("is", x.of(0, 1), 8);
        is("no run comes by it", x.of(0, 2), 1);
        is("of a crushed one", x.strength(1, 999), 5);
        is("which stays crushed", x.of(1, 2), 0);
    }

    @Sentence(promise = 5, says = "S.")
    void strengthLeavesState() {
        PillarRuns x = mine("p 3 4 100;");
        leavesState("another", x, () -> x.strength(0, 5), 100);
        leavesState("the same", x, () -> x.strength(0, 100), 100);
    }

    @Sentence(promise = 5, says = "BAD")
    void strengthBad() {
        PillarRuns x = mine("p 3 4 100;");
        int[][] bad = {{-1, 0}, {1, 0}, {0, -1}, {0, 1000}, {11, 5}, {12, 5}, {LEAST, 5}, {MOST, 5}, {0, LEAST}, {0, MOST}};
        for (int[] b : bad) refused(b[0] + " " + b[1], x, BAD, () -> x.strength(b[0], b[1]));
        PillarRuns full = mine(FIRST_ROW);
        refused("a thirteenth", full, BAD, () -> full.strength(12, 5));
        is("the twelfth", full.strength(11, 5), 999);
        PillarRuns none = new PillarRuns();
        refused("no pillars", none, BAD, () -> none.strength(0, 5));
    }

    // ---- 6 wall

    @Sentence(promise = 6, says = "A WALL behind row k (way 0), column k (1) is there (1) or not (0)")
    void wallIsThereOrNot() {
        PillarRuns x = mine("p 0 1 99;");
        x.wall(0, 0, 1);
        is("below it", x.rests(13), NONE);
        is("above it", x.rests(11), 0);
        x.wall(1, 10, 1);
        is("right of it", x.rests(11), NONE);
        is("left of it", x.rests(10), 0);
        x.wall(0, 0, 0);
        is("not there: below", x.rests(13), 0);
        is("the other stays", x.rests(11), NONE);
        x.wall(1, 10, 0);
        is("none", x.told(4), 0);
        is("one room", x.all(6), 1);
    }

    @Sentence(promise = 6, says = "whether it was")
    void wallAnswersWhetherItWas() {
        PillarRuns x = new PillarRuns();
        for (int way = 0; way <= 1; way++) {
            for (int k = 0; k <= (way == 0 ? 6 : 10); k++) {
                is("was not: off", x.wall(way, k, 0), 0);
                is("was not: on", x.wall(way, k, 1), 0);
                is("was: on", x.wall(way, k, 1), 1);
            }
        }
        is("all are there", x.told(4), 18);
        is("was: off", x.wall(0, 6, 0), 1);
        is("was not then", x.wall(0, 6, 0), 0);
        is("a column's is another", x.wall(1, 6, 0), 1);
    }

    @Sentence(promise = 6, says = "S.")
    void wallLeavesState() {
        PillarRuns x = mine("- 3;");
        leavesState("a row's", x, () -> x.wall(0, 6, 1), 0);
        leavesState("a column's", x, () -> x.wall(1, 10, 1), 0);
        leavesState("off", x, () -> x.wall(0, 3, 0), 1);
        leavesState("one that is there", x, () -> x.wall(0, 3, 1), 1);
        is("it is there yet", x.wall(0, 3, 1), 1);
    }

    @Sentence(promise = 6, says = "BAD")
    void wallBad() {
        PillarRuns x = new PillarRuns();
        int[][] bad = {{-1, 0, 0}, {2, 0, 0}, {0, -1, 0}, {0, 7, 0}, {1, -1, 0}, {1, 11, 0}, {0, 0, -1}, {1, 0, 2}, {0, 10, 1},
            {2, 7, 1}, {MOST, 0, 0}, {LEAST, 0, 0}, {0, LEAST, 0}, {0, MOST, 1}, {1, MOST, 1}, {1, LEAST, 1}, {0, 0, MOST},
            {1, 0, LEAST}};
        for (int[] b : bad) refused(b[0] + " " + b[1] + " " + b[2], x, BAD, () -> x.wall(b[0], b[1], b[2]));
    }

    // ---- 7 mends

    @Sentence(promise = 7, says = "All PILLARS stand again: how many were crushed.")
    void mendsAll() {
        PillarRuns x = new PillarRuns();
        is("no pillars", x.mends(), 0);
        x.pillar(0, 10);
        x.pillar(50, 11);
        x.pillar(95, 999);
        is("none crushed", x.mends(), 0);
        x.runs();
        is("two are", x.all(1), 1);
        is("how many were", x.mends(), 2);
        is("stand again", x.all(1), 3);
        is("with their strengths", x.of(1, 1), 11);
        is("and what is too much for them", x.all(2), 2);
        is("none is crushed", x.mends(), 0);
        PillarRuns full = mine(FIRST_ROW);
        does(full, "x0;x1;x2;x3;x4;x5;x6;x7;x8;x9;x10;x11;");
        is("all twelve", full.mends(), 12);
        is("stand", full.all(1), 12);
    }

    @Sentence(promise = 7, says = "S.")
    void mendsLeavesState() {
        PillarRuns x = mine("p 0 0 9;x 0;");
        leavesState("one crushed", x, x::mends, 1);
        PillarRuns none = new PillarRuns();
        leavesState("none there", none, none::mends, 0);
    }

    // ---- 8 anew

    @Sentence(promise = 8, says = "The mine is as at first")
    void anewIsAsAtFirst() {
        PillarRuns x = mine("p 0 0 10;p 0 1 10;- 1;/ 10;w 0 9 9;w 7 11 0;!;");
        x.anew();
        int[] all = {0, 0, 0, 96, 96, 96, 1, 0};
        for (int what = 0; what <= 7; what++) is("all " + what, x.all(what), all[what]);
        is("walls", x.told(4), 0);
        is("waves", x.wave(0, 0), 0);
        is("no pillar to ask for", x.of(0, 0), BAD);
        is("weight", x.weight(95, 1), 1);
        is("weight", x.weight(9, 1), 1);
        is("numbers from 0 on", x.pillar(33, 1), 0);
        is("which stands", x.of(0, 2), 1);
    }

    @Sentence(promise = 8, says = "(THE TEXT, how often refused stay)")
    void anewLeavesTextAndCounts() {
        PillarRuns x = mine(FIRST_ROW);
        type(x, "p 7 7 7;");
        x.all(8);
        x.pillar(0, 0);
        x.pillar(0, 0);
        x.pillar(90, 0);
        x.anew();
        int[] told = {1, 2, 1, 8, 0, 2};
        for (int what = 0; what <= 5; what++) is("told " + what, x.told(what), told[what]);
        is("the text as it was", x.does(), 1);
        is("the text as it was", x.of(0, 0), 91);
    }

    @Sentence(promise = 8, says = "how many PILLARS there were")
    void anewAnswersHowMany() {
        PillarRuns x = new PillarRuns();
        is("none", x.anew(), 0);
        does(x, "p 0 0 9;p 0 1 9;x 0;");
        is("crushed ones, too", x.anew(), 2);
        does(x, FIRST_ROW);
        is("twelve", x.anew(), 12);
        is("none then", x.anew(), 0);
    }

    @Sentence(promise = 8, says = "S.")
    void anewLeavesState() {
        PillarRuns x = mine("p 0 0 10;p 0 1 10;x 1;- 1;/ 10;w 0 9 9;");
        leavesState("a mine", x, x::anew, 2);
        is("the crushed one is crushed", x.of(1, 2), 0);
        PillarRuns none = new PillarRuns();
        leavesState("one as at first", none, none::anew, 0);
    }

    // ---- 9 of

    /** Two pillars in far corners: 8 cells are as near to one as to the other, so they bear 52 and 44, of weight 52. */
    private static PillarRuns twoCorners() {
        return mine("p 0 0 54;p 7 11 40;w 7 11 9;");
    }

    @Sentence(promise = 9, says = "Of a PILLAR: CELL (0), STRENGTH (1)")
    void ofCellAndStrength() {
        PillarRuns x = mine("p 0 0 999;p 7 11 0;x 1;");
        stays("first cell", x, () -> x.of(0, 0), 0);
        stays("most strength", x, () -> x.of(0, 1), 999);
        stays("last cell, crushed", x, () -> x.of(1, 0), 95);
        stays("least strength, crushed", x, () -> x.of(1, 1), 0);
    }

    @Sentence(promise = 9, says = "standing (2: 1, 0)")
    void ofStanding() {
        PillarRuns x = mine("p 0 0 0;p 7 11 0;x 1;");
        stays("stands, too much", x, () -> x.of(0, 2), 1);
        stays("crushed", x, () -> x.of(1, 2), 0);
        x.runs();
        is("crushed by a run", x.of(0, 2), 0);
        x.mends();
        is("mended", x.of(1, 2), 1);
    }

    @Sentence(promise = 9, says = "LOAD (3; crushed: 0)")
    void ofLoad() {
        PillarRuns x = twoCorners();
        stays("of 0", x, () -> x.of(0, 3), 52);
        stays("of 1", x, () -> x.of(1, 3), 52);
        does(x, "x 0;");
        stays("crushed", x, () -> x.of(0, 3), 0);
        stays("the other bears all", x, () -> x.of(1, 3), 104);
        x.draw(1, 0);
        is("weights of 0", x.of(1, 3), 0);
    }

    @Sentence(promise = 9, says = "CELLS that rest on it (4)")
    void ofCellsOnIt() {
        PillarRuns x = twoCorners();
        stays("of 0", x, () -> x.of(0, 4), 52);
        stays("of 1, of what weight ever", x, () -> x.of(1, 4), 44);
        does(x, "x 1;");
        stays("all", x, () -> x.of(0, 4), 96);
        stays("none rest on a crushed one", x, () -> x.of(1, 4), 0);
        does(x, "- 0;/ 0;");
        is("its room alone", x.of(0, 4), 1);
    }

    @Sentence(promise = 9, says = "SPARE (5; crushed: -10000)")
    void ofSpare() {
        PillarRuns x = twoCorners();
        stays("some", x, () -> x.of(0, 5), 2);
        stays("too little", x, () -> x.of(1, 5), -12);
        x.strength(1, 52);
        is("none", x.of(1, 5), 0);
        x.loses(1);
        stays("crushed", x, () -> x.of(1, 5), -10000);
        stays("crushed by the run", x, () -> x.of(0, 5), -10000);
    }

    @Sentence(promise = 9, says = "BAD")
    void ofBad() {
        PillarRuns x = twoCorners();
        int[][] bad = {{-1, 0}, {2, 0}, {0, -1}, {0, 6}, {11, 0}, {12, 0}, {LEAST, 0}, {MOST, 0}, {0, LEAST}, {0, MOST}};
        for (int[] b : bad) refused(b[0] + " " + b[1], x, BAD, () -> x.of(b[0], b[1]));
        PillarRuns full = mine(FIRST_ROW);
        is("the twelfth", full.of(11, 0), 11);
        refused("a thirteenth", full, BAD, () -> full.of(12, 0));
        PillarRuns none = new PillarRuns();
        refused("no pillars", none, BAD, () -> none.of(0, 0));
        full.anew();
        refused("gone behind anew", full, BAD, () -> full.of(0, 0));
    }

    // ---- 10 rests

    @Sentence(promise = 10, says = "The PILLAR on which a CELL rests")
    void restsOn() {
        PillarRuns x = mine("p 2 0 99;p 0 2 99;");
        stays("first cell", x, () -> x.rests(0), 0);
        stays("nearer", x, () -> x.rests(1), 1);
        stays("its own cell", x, () -> x.rests(2), 1);
        stays("last cell", x, () -> x.rests(95), 0);
        does(x, "x 0;");
        is("the other, on the first one's own cell", x.rests(24), 1);
        PillarRuns full = mine(FIRST_ROW);
        is("the twelfth", full.rests(95), 11);
    }

    @Sentence(promise = 10, says = "NONE: FALLEN")
    void restsOnNone() {
        PillarRuns x = mine("p 0 0 99;- 3;");
        stays("last of its room", x, () -> x.rests(47), 0);
        stays("first of the next", x, () -> x.rests(48), NONE);
        does(x, "x 0;");
        stays("on a crushed one", x, () -> x.rests(0), NONE);
    }

    @Sentence(promise = 10, says = "BAD")
    void restsBad() {
        PillarRuns x = mine("p 0 0 99;");
        int[] bad = {-1, 96, LEAST, MOST};
        for (int b : bad) refused("" + b, x, BAD, () -> x.rests(b));
    }

    // ---- 11 all

    /** Four rooms of 24 cells, three of them with pillars: two, one and one. */
    private static PillarRuns fourRooms() {
        return mine("- 3;/ 5;p 0 0 23;p 0 1 24;p 0 11 24;p 7 11 24;w 4 2 9;");
    }

    @Sentence(promise = 11, says = "How many PILLARS (0), standing (1)")
    void allPillars() {
        PillarRuns x = fourRooms();
        stays("pillars", x, () -> x.all(0), 4);
        stays("standing", x, () -> x.all(1), 4);
        does(x, "x 0;x 3;");
        stays("crushed ones are pillars", x, () -> x.all(0), 4);
        stays("standing then", x, () -> x.all(1), 2);
        PillarRuns full = mine(FIRST_ROW);
        is("twelve", full.all(0), 12);
        is("twelve stand", full.all(1), 12);
    }

    @Sentence(promise = 11, says = "TOO MUCH (2)")
    void allTooMuch() {
        PillarRuns x = fourRooms();
        stays("loads as strengths", x, () -> x.all(2), 0);
        x.weight(95, 2);
        stays("one above", x, () -> x.all(2), 1);
        x.weight(11, 2);
        stays("two above", x, () -> x.all(2), 2);
        does(x, "x 3;");
        stays("for a crushed one nothing is", x, () -> x.all(2), 1);
    }

    @Sentence(promise = 11, says = "FALLEN CELLS (3), WEIGHT of these (4)")
    void allFallen() {
        PillarRuns x = fourRooms();
        stays("cells", x, () -> x.all(3), 24);
        stays("weight", x, () -> x.all(4), 32);
        does(x, "x 3;");
        stays("cells then", x, () -> x.all(3), 48);
        stays("weight then", x, () -> x.all(4), 56);
        does(x, "x 0;");
        stays("another is in the room", x, () -> x.all(3), 48);
        does(x, "x 1;x 2;");
        stays("all cells", x, () -> x.all(3), 96);
        stays("all weight", x, () -> x.all(4), 104);
        PillarRuns held = mine("p 0 0 0;");
        is("none", held.all(3), 0);
        is("none", held.all(4), 0);
    }

    @Sentence(promise = 11, says = "all WEIGHTS (5)")
    void allWeights() {
        PillarRuns x = fourRooms();
        stays("fallen or not", x, () -> x.all(5), 104);
        x.draw(5, 0);
        is("least", x.all(5), 0);
        for (int cell = 0; cell < 96; cell++) x.weight(cell, 9);
        is("most", x.all(5), 864);
    }

    @Sentence(promise = 11, says = "ROOMS (6)")
    void allRooms() {
        PillarRuns x = new PillarRuns();
        is("one", x.all(6), 1);
        for (int k = 0; k <= 6; k++) {
            x.wall(0, k, 1);
            is("rows", x.all(6), k + 2);
        }
        for (int k = 0; k <= 10; k++) {
            x.wall(1, k, 1);
            is("and columns", x.all(6), 8 * (k + 2));
        }
        stays("each cell a room", x, () -> x.all(6), 96);
    }

    @Sentence(promise = 11, says = "ROOMS in which a PILLAR stands (7)")
    void allHeldRooms() {
        PillarRuns x = fourRooms();
        stays("three", x, () -> x.all(7), 3);
        does(x, "x 3;");
        stays("two", x, () -> x.all(7), 2);
        does(x, "x 0;");
        stays("one yet in that room", x, () -> x.all(7), 2);
        does(x, "x 1;x 2;");
        stays("none", x, () -> x.all(7), 0);
        PillarRuns full = mine(FIRST_ROW);
        does(full, "/0;/1;/2;/3;/4;/5;/6;/7;/8;/9;/10;");
        is("twelve", full.all(7), 12);
    }

    @Sentence(promise = 11, says = "BAD")
    void allBad() {
        PillarRuns x = fourRooms();
        int[] bad = {-1, 8, LEAST, MOST};
        for (int b : bad) refused("" + b, x, BAD, () -> x.all(b));
    }

    // ---- 12 beside

    @Sentence(promise = 12, says = {"Whether two standing PILLARS are NEIGHBOURS", "1, 0"})
    void besideOrNot() {
        PillarRuns x = mine("p 0 0 99;p 0 5 99;p 0 11 99;p 7 10 99;");
        stays("beside", x, () -> x.beside(0, 1), 1);
        stays("either way", x, () -> x.beside(1, 0), 1);
        stays("one between", x, () -> x.beside(0, 2), 0);
        stays("either way", x, () -> x.beside(2, 0), 0);
        stays("above and below", x, () -> x.beside(2, 3), 1);
        stays("below and above", x, () -> x.beside(3, 2), 1);
        does(x, "x 1;");
        stays("the one between is crushed", x, () -> x.beside(0, 2), 1);
    }

    @Sentence(promise = 12, says = "(a CELL that rests on one is beside one that rests on the other, over a side, no WALL between)")
    void besideOverASide() {
        PillarRuns x = mine("p 0 0 99;p 0 1 99;p 1 0 99;p 1 1 99;");
        stays("over a side, right", x, () -> x.beside(0, 1), 1);
        stays("over a side, below", x, () -> x.beside(0, 2), 1);
        stays("over a corner", x, () -> x.beside(0, 3), 0);
        stays("over the other corner", x, () -> x.beside(1, 2), 0);
        x.wall(1, 0, 1);
        stays("a wall between columns", x, () -> x.beside(0, 1), 0);
        stays("either way", x, () -> x.beside(1, 0), 0);
        stays("none between rows", x, () -> x.beside(0, 2), 1);
        x.wall(0, 0, 1);
        stays("a wall between rows", x, () -> x.beside(0, 2), 0);
        stays("either way", x, () -> x.beside(2, 0), 0);
        PillarRuns last = mine("p 0 10 99;p 0 11 99;p 6 0 99;p 7 0 99;");
        stays("the last columns", last, () -> last.beside(0, 1), 1);
        stays("the last rows", last, () -> last.beside(2, 3), 1);
    }

    @Sentence(promise = 12, says = "BAD: alike, crushed, too")
    void besideBad() {
        PillarRuns x = mine("p 0 0 99;p 0 5 99;p 0 11 99;x 1;");
        refused("alike", x, BAD, () -> x.beside(0, 0));
        refused("the second is crushed", x, BAD, () -> x.beside(0, 1));
        refused("the first is crushed", x, BAD, () -> x.beside(1, 0));
        refused("alike and crushed", x, BAD, () -> x.beside(1, 1));
        int[][] bad = {{-1, 0}, {0, -1}, {0, 3}, {3, 0}, {0, 12}, {12, 0}, {7, 7}, {-1, -1}, {LEAST, 0}, {0, LEAST}, {MOST, 0},
            {0, MOST}};
        for (int[] b : bad) refused(b[0] + " " + b[1], x, BAD, () -> x.beside(b[0], b[1]));
        is("the last", x.beside(0, 2), 1);
    }

    public static void main(String[] args) throws Exception {
        new MineTest().runAll();
    }
}
