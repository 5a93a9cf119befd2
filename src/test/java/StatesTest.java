import java.math.BigInteger;
import java.util.function.IntSupplier;

/** STATES and refusals, as the terms tell them, and promises 25 to 27, sentence by sentence. */
public final class StatesTest extends SentenceTests {
    @Sentence(promise = 0, says = "STATES: each call told S leaves one to go back to")
    void callsToldS() {
        PillarRuns x = mine(THREE_CORNERS);
        type(x, "!;");
        IntSupplier[] calls = {() -> x.pillar(50, 5), () -> x.weight(50, 5), () -> x.draw(5, 5), () -> x.strength(0, 5),
            () -> x.wall(0, 5, 1), x::mends, x::anew, x::runs, () -> x.loses(2), x::does};
        for (int i = 0; i < calls.length; i++) {
            long before = x.digest();
            calls[i].getAsInt();
            is("states behind call " + i, x.told(5), 2);
            is("back from call " + i, x.back(), 1);
            is("as before call " + i, x.digest(), before);
        }
    }

    @Sentence(promise = 0, says = "STATES: each call told S leaves one to go back to")
    void callsNotToldS() {
        PillarRuns x = mine(THREE_CORNERS);
        IntSupplier[] calls = {() -> x.of(0, 0), () -> x.rests(0), () -> x.all(0), () -> x.beside(0, 1), () -> x.wave(0, 0),
            () -> x.would(0, 0), () -> x.worst(0), () -> x.cut(0), x::mending, () -> x.bestWall(0), () -> x.bestCell(5, 0),
            () -> x.type(32), x::clear, () -> x.told(0), () -> (int) x.digest()};
        for (int i = 0; i < calls.length; i++) {
            calls[i].getAsInt();
            is("states behind call " + i, x.told(5), 1);
        }
    }

    @Sentence(promise = 0, says = "6 at most, older ones lost")
    void sixAtMost() {
        PillarRuns x = new PillarRuns();
        for (int i = 0; i < 8; i++) {
            x.pillar(i, i);
            is("states", x.told(5), Math.min(i + 1, 6));
        }
        for (int left = 5; left >= 0; left--) {
            is("can be yet", x.back(), left);
            is("pillars", x.all(0), 2 + left);
        }
        refused("older ones are lost", x, NO, x::back);
        is("two pillars stay", x.all(0), 2);
    }

    /** However the calls and the ways back go, the newest six are there, each as it was. */
    @Sentence(promise = 0, says = "6 at most, older ones lost")
    void newestSixOfMany() {
        PillarRuns x = new PillarRuns();
        int[] held = new int[512];
        int now = 1, states = 0, depth = 0;
        for (int step = 1; step <= 200; step++) {
            if (step % 7 < 5) {
                held[depth++] = now;
                states = Math.min(states + 1, 6);
                is("was", x.weight(0, step % 10), now);
                now = step % 10;
            } else if (states > 0) {
                now = held[--depth];
                is("can be yet", x.back(), --states);
            }
            is("weights", x.all(5), 95 + now);
        }
    }

    @Sentence(promise = 0, says = "Refused, changing nothing but how often, the first of:")
    void refusedTheFirstOf() {
        PillarRuns x = mine(FIRST_ROW);
        x.loses(11);
        refused("bad, no and full: bad", x, BAD, () -> x.pillar(0, 1000));
        refused("no and full: no", x, NO, () -> x.pillar(0, 5));
        refused("full", x, FULL, () -> x.pillar(50, 5));
        refused("bad and no: bad", x, BAD, () -> x.would(11, 2));
        refused("no", x, NO, () -> x.would(11, 1));
        refused("bad and no: bad", x, BAD, () -> x.bestCell(-1, 0));
        type(x, " ".repeat(120));
        refused("bad and full: bad", x, BAD, () -> x.type(-1));
        int[] told = {4, 2, 1};
        for (int what = 0; what <= 2; what++) is("how often, " + what, x.told(what), told[what]);
    }

    @Sentence(promise = 0, says = "BAD -2 a number is not as told")
    void badCounts() {
        PillarRuns x = mine(THREE_CORNERS);
        is("the constant", PillarRuns.BAD, -2);
        IntSupplier[] calls = {() -> x.pillar(-1, 0), () -> x.weight(96, 0), () -> x.draw(-1, 0), () -> x.strength(3, 0),
            () -> x.wall(0, 7, 0), () -> x.of(3, 0), () -> x.rests(96), () -> x.all(8), () -> x.beside(0, 3), () -> x.loses(3),
            () -> x.wave(3, 0), () -> x.would(3, 0), () -> x.worst(2), () -> x.cut(3), () -> x.bestWall(2),
            () -> x.bestCell(1000, 0), () -> x.type(128), () -> x.told(6)};
        for (int i = 0; i < calls.length; i++) {
            refused("call " + i, x, BAD, calls[i]);
            is("how often behind call " + i, x.told(0), i + 1);
        }
    }

    @Sentence(promise = 0, says = "NO -3 as told")
    void noCounts() {
        PillarRuns x = mine(FIRST_ROW);
        x.back();
        is("the constant", PillarRuns.NO, -3);
        refused("no state", x, NO, x::back);
        does(x, FIRST_ROW + "x0;");
        IntSupplier[] calls = {() -> x.pillar(0, 0), () -> x.loses(0), () -> x.would(0, 0), () -> x.cut(0), () -> x.bestCell(5, 0)};
        for (int i = 0; i < calls.length; i++) {
            refused("call " + i, x, NO, calls[i]);
            is("how often behind call " + i, x.told(1), i + 2);
        }
    }

    @Sentence(promise = 0, says = "FULL -4 as told")
    void fullCounts() {
        PillarRuns x = mine(FIRST_ROW);
        is("the constant", PillarRuns.FULL, -4);
        refused("a pillar", x, FULL, () -> x.pillar(95, 0));
        type(x, " ".repeat(120));
        refused("a byte", x, FULL, () -> x.type(32));
        is("how often", x.told(2), 2);
    }

    // ---- 25 back

    @Sentence(promise = 25, says = "A STATE back: how many can be yet.")
    void backByOne() {
        PillarRuns x = mine("p 0 0 0;p 0 1 1;");
        x.weight(5, 9);
        x.wall(0, 2, 1);
        x.strength(1, 500);
        x.runs();
        is("pillar 0 is crushed", x.of(0, 2), 0);
        is("back from the run", x.back(), 4);
        is("it stands", x.of(0, 2), 1);
        is("back from the strength", x.back(), 3);
        is("its strength", x.of(1, 1), 1);
        is("back from the wall", x.back(), 2);
        is("no wall", x.told(4), 0);
        is("back from the weight", x.back(), 1);
        is("the weight", x.all(5), 96);
        is("back from the text", x.back(), 0);
        is("no pillars", x.all(0), 0);
    }

    @Sentence(promise = 25, says = "A STATE back: how many can be yet.")
    void backTakesTheMineAlone() {
        PillarRuns x = new PillarRuns();
        x.pillar(0, 5);
        type(x, "!;");
        x.all(-1);
        x.pillar(0, 5);
        is("back", x.back(), 0);
        is("the text stays", x.told(3), 2);
        is("how often bad stays", x.told(0), 1);
        is("how often no stays", x.told(1), 1);
        x.mends();
        is("a state in place of the one gone", x.told(5), 1);
    }

    @Sentence(promise = 25, says = "NO: none.")
    void backNone() {
        PillarRuns x = new PillarRuns();
        refused("at first", x, NO, x::back);
        x.pillar(0, 5);
        is("one", x.back(), 0);
        refused("none left", x, NO, x::back);
        refused("none left yet", x, NO, x::back);
    }

    // ---- 26 told

    @Sentence(promise = 26, says = "How often refused: BAD (0), NO (1), FULL (2)")
    void toldRefused() {
        PillarRuns x = mine(FIRST_ROW);
        for (int what = 0; what <= 2; what++) is("none, " + what, x.told(what), 0);
        for (int i = 0; i < 3; i++) x.all(8);
        for (int i = 0; i < 2; i++) x.pillar(0, 0);
        x.pillar(90, 0);
        int[] told = {3, 2, 1};
        for (int what = 0; what <= 2; what++) {
            int answer = what;
            stays("what " + what, x, () -> x.told(answer), told[what]);
        }
    }

    @Sentence(promise = 26, says = "bytes of THE TEXT (3)")
    void toldBytes() {
        PillarRuns x = new PillarRuns();
        is("none", x.told(3), 0);
        x.type(0);
        stays("one", x, () -> x.told(3), 1);
        type(x, "!".repeat(121));
        stays("most", x, () -> x.told(3), 120);
        x.does();
        is("behind does", x.told(3), 120);
        x.clear();
        is("behind clear", x.told(3), 0);
    }

    @Sentence(promise = 26, says = "WALLS (4)")
    void toldWalls() {
        PillarRuns x = new PillarRuns();
        is("none", x.told(4), 0);
        int walls = 0;
        for (int way = 0; way <= 1; way++) {
            for (int k = 0; k <= (way == 0 ? 6 : 10); k++) {
                x.wall(way, k, 1);
                x.wall(way, k, 1);
                is("walls", x.told(4), ++walls);
            }
        }
        stays("most", x, () -> x.told(4), 18);
        x.wall(0, 0, 0);
        is("one less", x.told(4), 17);
        x.anew();
        is("behind anew", x.told(4), 0);
    }

    @Sentence(promise = 26, says = "STATES (5)")
    void toldStates() {
        PillarRuns x = new PillarRuns();
        for (int i = 0; i <= 7; i++) {
            stays("behind " + i, x, () -> x.told(5), Math.min(i, 6));
            x.mends();
        }
        x.back();
        is("behind back", x.told(5), 5);
    }

    @Sentence(promise = 26, says = "BAD.")
    void toldBad() {
        PillarRuns x = new PillarRuns();
        int[] bad = {-1, 6, LEAST, MOST};
        for (int b : bad) refused("" + b, x, BAD, () -> x.told(b));
        is("which counts, too", x.told(0), 4);
    }

    // ---- 27 digest

    /** 31 h + v for each v, with numbers that have no bound, then the 64 bits that a long holds. */
    private static long hash(int[] values, int[] weights) {
        BigInteger h = BigInteger.valueOf(2153);
        for (int v : values) h = h.multiply(BigInteger.valueOf(31)).add(BigInteger.valueOf(v));
        for (int v : weights) h = h.multiply(BigInteger.valueOf(31)).add(BigInteger.valueOf(v));
        return h.longValue();
    }

    private static int[] ones() {
        int[] weights = new int[96];
        java.util.Arrays.fill(weights, 1);
        return weights;
    }

    @Sentence(promise = 27, says = "h = 2153; then h = 31 h + v for each v")
    void digestOfANewObject() {
        PillarRuns x = new PillarRuns();
        int[] values = {0, 0, 0, 0, 0, 0, 0, 0, 0, 96, 96, 96, 1, 0};
        stays("new", x, x::digest, hash(values, ones()));
    }

    @Sentence(promise = 27, says = "told(0) to told(5)")
    void digestOfTold() {
        PillarRuns x = mine(FIRST_ROW);
        x.back();
        x.back();
        for (int i = 0; i < 3; i++) x.back();
        for (int i = 0; i < 5; i++) x.all(8);
        type(x, "~".repeat(123));
        type(x, "ab");
        for (int k = 0; k <= 5; k++) x.wall(0, k, 1);
        int[] values = {5, 4, 3, 2, 6, 6, 0, 0, 0, 96, 96, 96, 7, 0};
        stays("counts", x, x::digest, hash(values, ones()));
    }

    @Sentence(promise = 27, says = "all(0) to all(7)")
    void digestOfAll() {
        PillarRuns x = mine("- 3;/ 5;p 0 0 9;p 0 1 99;p 0 11 99;x 2;");
        int[] values = {0, 0, 0, 0, 2, 1, 3, 2, 0, 72, 72, 96, 4, 1, 0, 9, 1, 4, 4, 1, 99, 1, 20, 20, 11, 99, 0, 0, 0};
        stays("a mine", x, x::digest, hash(values, ones()));
        x.strength(0, 3);
        int[] then = {0, 0, 0, 0, 2, 2, 3, 2, 1, 72, 72, 96, 4, 1, 0, 3, 1, 4, 4, 1, 99, 1, 20, 20, 11, 99, 0, 0, 0};
        stays("too much", x, x::digest, hash(then, ones()));
    }

    @Sentence(promise = 27, says = "of PILLARS of(0) to of(4)")
    void digestOfPillars() {
        PillarRuns x = mine("p 0 0 50;p 7 11 40;w 7 11 9;");
        int[] weights = ones();
        weights[95] = 9;
        int[] values = {0, 0, 0, 0, 0, 1, 2, 2, 2, 0, 0, 104, 1, 1, 0, 50, 1, 52, 52, 95, 40, 1, 52, 44};
        stays("standing", x, x::digest, hash(values, weights));
        x.loses(0);
        int[] crushed = {0, 0, 0, 0, 0, 2, 2, 0, 0, 96, 104, 104, 1, 0, 0, 50, 0, 0, 0, 95, 40, 0, 0, 0};
        stays("crushed", x, x::digest, hash(crushed, weights));
        PillarRuns full = mine(FIRST_ROW);
        int[] twelve = new int[14 + 60];
        int[] first = {0, 0, 0, 0, 0, 1, 12, 12, 0, 0, 0, 96, 1, 1};
        System.arraycopy(first, 0, twelve, 0, 14);
        for (int p = 0; p < 12; p++) System.arraycopy(new int[] {p, 999, 1, 8, 8}, 0, twelve, 14 + 5 * p, 5);
        stays("twelve", full, full::digest, hash(twelve, ones()));
    }

    @Sentence(promise = 27, says = "WEIGHTS.")
    void digestOfWeights() {
        PillarRuns x = new PillarRuns();
        int[] weights = new int[96];
        int sum = 0;
        for (int cell = 0; cell < 96; cell++) {
            weights[cell] = cell % 10;
            sum += weights[cell];
            x.weight(cell, weights[cell]);
        }
        int[] values = {0, 0, 0, 0, 0, 6, 0, 0, 0, 96, sum, sum, 1, 0};
        stays("each in its place", x, x::digest, hash(values, weights));
    }

    public static void main(String[] args) throws Exception {
        new StatesTest().runAll();
    }
}
