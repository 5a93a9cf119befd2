/** Promises 13 to 15, runs, sentence by sentence. */
public final class RunsTest extends SentenceTests {
    /** Each pillar holds its column, but not with the columns of all before it: twelve waves of one. */
    private static PillarRuns twelveWaves() {
        PillarRuns x = new PillarRuns();
        for (int p = 0; p < 12; p++) x.pillar(p, 8 * p + 7);
        return x;
    }

    // ---- 13 runs

    @Sentence(promise = 13, says = "A RUN: how many PILLARS are crushed by it.")
    void runsAnswersHowMany() {
        PillarRuns x = new PillarRuns();
        is("no pillars", x.runs(), 0);
        x.pillar(0, 96);
        is("load as strength", x.runs(), 0);
        x.strength(0, 95);
        is("load above strength", x.runs(), 1);
        is("it is crushed", x.of(0, 2), 0);
        is("crushed before: not by this one", x.runs(), 0);
        is("all twelve", twelveWaves().runs(), 12);
        PillarRuns y = mine(THREE_CORNERS);
        y.wall(0, 3, 1);
        y.wall(1, 5, 1);
        y.strength(1, 23);
        is("walls stop it", y.runs(), 1);
        is("the others are left", y.all(1), 2);
    }

    @Sentence(promise = 13, says = "S.")
    void runsLeavesState() {
        PillarRuns x = mine("p 0 0 95;");
        leavesState("one crushed", x, x::runs, 1);
        x.strength(0, 96);
        leavesState("none crushed", x, x::runs, 0);
        PillarRuns none = new PillarRuns();
        leavesState("none there", none, none::runs, 0);
    }

    // ---- 14 loses

    @Sentence(promise = 14, says = "LOSS of a PILLAR: how many are crushed (itself too).")
    void losesAnswersHowMany() {
        PillarRuns x = mine(THREE_CORNERS);
        is("it brings all down", x.loses(2), 3);
        is("none stands", x.all(1), 0);
        x.mends();
        x.strength(0, 999);
        x.strength(1, 47);
        is("itself and one that gets more", x.loses(2), 2);
        is("the strong one is left", x.of(0, 2), 1);
        x.mends();
        x.wall(0, 3, 1);
        is("itself alone", x.loses(2), 1);
        is("the only one", mine("p 7 11 999;").loses(0), 1);
        PillarRuns full = mine(FIRST_ROW);
        is("the twelfth", full.loses(11), 1);
        is("it is crushed", full.of(11, 2), 0);
        PillarRuns y = mine("p 0 0 1;p 7 11 999;");
        is("a run that would come anyway is one, too", y.loses(1), 2);
    }

    @Sentence(promise = 14, says = "S.")
    void losesLeavesState() {
        PillarRuns x = mine(THREE_CORNERS);
        leavesState("with a run", x, () -> x.loses(2), 3);
        x.wall(0, 3, 1);
        leavesState("without one", x, () -> x.loses(2), 1);
    }

    @Sentence(promise = 14, says = "BAD")
    void losesBad() {
        PillarRuns x = mine(THREE_CORNERS);
        int[] bad = {-1, 3, 11, 12, LEAST, MOST};
        for (int b : bad) refused("" + b, x, BAD, () -> x.loses(b));
        PillarRuns full = mine(FIRST_ROW);
        refused("a thirteenth", full, BAD, () -> full.loses(12));
        PillarRuns none = new PillarRuns();
        refused("no pillars", none, BAD, () -> none.loses(0));
    }

    @Sentence(promise = 14, says = "NO: it is crushed")
    void losesNo() {
        PillarRuns x = mine(THREE_CORNERS);
        x.loses(2);
        refused("crushed", x, NO, () -> x.loses(2));
        refused("crushed by the run", x, NO, () -> x.loses(0));
        x.mends();
        is("mended", x.loses(0), 3);
    }

    // ---- 15 wave

    @Sentence(promise = 15, says = "WAVES of the last RUN of a call told S (what 0)")
    void wavesOfTheLastRun() {
        PillarRuns x = mine(THREE_CORNERS);
        x.loses(2);
        stays("of loses", x, () -> x.wave(0, 0), 2);
        x.pillar(50, 999);
        x.weight(3, 3);
        x.strength(0, 1);
        x.wall(1, 3, 1);
        x.draw(1, 1);
        is("calls without a run leave it", x.wave(0, 0), 2);
        x.would(3, 0);
        x.worst(0);
        x.cut(3);
        x.mending();
        x.bestWall(0);
        x.bestCell(1, 0);
        is("what would be leaves it", x.wave(0, 0), 2);
        is("a run of none", x.runs(), 0);
        is("is the last one", x.wave(0, 0), 0);
        PillarRuns twelve = twelveWaves();
        twelve.runs();
        is("of runs, at most", twelve.wave(0, 0), 12);
    }

    @Sentence(promise = 15, says = "WAVES of the last RUN of a call told S (what 0)")
    void wavesOfATextsRun() {
        PillarRuns x = mine(THREE_CORNERS);
        x.loses(2);
        does(x, "w 0 0 1;");
        is("a text without a run leaves it", x.wave(0, 0), 2);
        x.back();
        x.back();
        does(x, "x2;!;");
        is("of a text", x.wave(0, 0), 2);
        is("its first", x.wave(1, 0), 1);
        x.bestWall(0);
        does(x, "w 0 0 1;");
        is("a text without a run leaves it, whatever was tried", x.wave(0, 0), 2);
        fault(x, "!;?", 2);
        is("one with a fault leaves it", x.wave(0, 0), 2);
        does(x, "p 5 5 0;!;p 5 6 0;!;!;p 7 7 999;");
        is("the last of a text", x.wave(0, 0), 0);
        does(x, "p 5 7 0;!;");
        is("one wave then", x.wave(0, 0), 1);
        is("it is in the last run's wave", x.wave(1, 6), 1);
        is("one of an earlier run is not", x.wave(1, 0), NONE);
        PillarRuns twelve = twelveWaves();
        does(twelve, "!;");
        is("twelve", twelve.wave(0, 0), 12);
        is("the last", twelve.wave(1, 11), 12);
    }

    @Sentence(promise = 15, says = "the WAVE in which PILLAR k was crushed in it (1; NONE: not in it)")
    void waveOfAPillar() {
        PillarRuns x = mine(THREE_CORNERS);
        x.loses(2);
        stays("the first", x, () -> x.wave(1, 0), 1);
        stays("the second", x, () -> x.wave(1, 1), 2);
        stays("the lost one is in none", x, () -> x.wave(1, 2), NONE);
        x.pillar(50, 0);
        stays("one that came behind it", x, () -> x.wave(1, 3), NONE);
        x.runs();
        stays("in the next run", x, () -> x.wave(1, 3), 1);
        stays("not in the next run", x, () -> x.wave(1, 0), NONE);
        PillarRuns y = mine("p 0 0 1;p 7 11 999;");
        y.runs();
        is("one that stands", y.wave(1, 1), NONE);
        PillarRuns twelve = twelveWaves();
        twelve.runs();
        for (int p = 0; p < 12; p++) is("pillar " + p, twelve.wave(1, p), p + 1);
    }

    @Sentence(promise = 15, says = "how many were in WAVE k (2, from 1 on)")
    void pillarsOfAWave() {
        PillarRuns x = mine("p 0 0 0;p 0 11 0;p 7 0 95;p 7 11 97;");
        is("two", x.runs(), 2);
        stays("both in wave 1", x, () -> x.wave(2, 1), 2);
        stays("none in wave 2", x, () -> x.wave(2, 2), 0);
        x.strength(3, 47);
        is("two more", x.runs(), 2);
        stays("one in wave 1 of the next", x, () -> x.wave(2, 1), 1);
        stays("one in wave 2 of the next", x, () -> x.wave(2, 2), 1);
        PillarRuns twelve = twelveWaves();
        twelve.runs();
        for (int k = 1; k <= 12; k++) is("wave " + k, twelve.wave(2, k), 1);
        stays("one more than the last", twelve, () -> twelve.wave(2, 13), 0);
        stays("the furthest", twelve, () -> twelve.wave(2, MOST), 0);
        PillarRuns row = mine(FIRST_ROW);
        row.draw(1, 0);
        for (int cell = 0; cell < 12; cell++) row.weight(cell, 1);
        for (int p = 0; p < 12; p++) row.strength(p, 0);
        row.runs();
        is("all at once", row.wave(2, 1), 12);
        is("one wave", row.wave(0, 0), 1);
    }

    @Sentence(promise = 15, says = "All none at first")
    void noWavesAtFirst() {
        PillarRuns x = mine(THREE_CORNERS);
        stays("waves", x, () -> x.wave(0, 0), 0);
        for (int p = 0; p < 3; p++) is("pillar " + p, x.wave(1, p), NONE);
        for (int k = 1; k <= 12; k++) is("wave " + k, x.wave(2, k), 0);
        PillarRuns none = new PillarRuns();
        is("no pillars", none.wave(0, 0), 0);
        is("no pillars", none.wave(2, 1), 0);
    }

    private void noWavesBehind(String call, PillarRuns x) {
        is("waves behind " + call, x.wave(0, 0), 0);
        int pillars = x.all(0);
        for (int p = 0; p < pillars; p++) is("pillar " + p + " behind " + call, x.wave(1, p), NONE);
        for (int k = 1; k <= 2; k++) is("wave " + k + " behind " + call, x.wave(2, k), 0);
    }

    @Sentence(promise = 15, says = "and behind mends, anew, back")
    void noWavesBehindMendsAnewBack() {
        PillarRuns x = mine(THREE_CORNERS);
        x.loses(2);
        is("there are", x.wave(0, 0), 2);
        x.mends();
        noWavesBehind("mends", x);
        x.loses(2);
        x.anew();
        noWavesBehind("anew", x);
        does(x, THREE_CORNERS);
        noWavesBehind("anew, with new pillars", x);
        x.loses(2);
        x.back();
        noWavesBehind("back", x);
        x.loses(2);
        x.weight(0, 0);
        x.back();
        noWavesBehind("back, of another call than the run", x);
    }

    @Sentence(promise = 15, says = "BAD: of what 0 k counts not")
    void waveOfWhat0AnyK() {
        PillarRuns x = mine(THREE_CORNERS);
        x.loses(2);
        int[] any = {LEAST, -1, 0, 1, 3, 12, MOST};
        for (int k : any) stays("k " + k, x, () -> x.wave(0, k), 2);
        int[] bad = {-1, 3, LEAST, MOST};
        for (int b : bad) refused("what " + b, x, BAD, () -> x.wave(b, 1));
    }

    @Sentence(promise = 15, says = "k no PILLAR, below 1")
    void waveBad() {
        PillarRuns x = mine(THREE_CORNERS);
        x.loses(2);
        int[] noPillar = {-1, 3, 11, 12, LEAST, MOST};
        for (int k : noPillar) refused("no pillar " + k, x, BAD, () -> x.wave(1, k));
        int[] below = {0, -1, LEAST};
        for (int k : below) refused("below 1: " + k, x, BAD, () -> x.wave(2, k));
        x.anew();
        refused("no pillar behind anew", x, BAD, () -> x.wave(1, 0));
    }

    public static void main(String[] args) throws Exception {
        new RunsTest().runAll();
    }
}
