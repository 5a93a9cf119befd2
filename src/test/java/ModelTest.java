import java.util.Random;

/** Long runs of drawn calls, wrong ones among them, on PillarRuns and on the naive mine: all answers must be alike. */
public final class ModelTest {
    private static final int OBJECTS = 240;
    private static final int CALLS = 512;
    private static final String SIGNS = "pppppwww-/xx!!;; 0123456789a(~";

    private final Due due;
    private final Random random;
    private final PillarRuns x = new PillarRuns();
    private final NaiveMine model = new NaiveMine();
    private final String name;
    private final int strengthTo;
    private int calls = 0;

    private ModelTest(int seed, Due due) {
        this.due = due;
        this.random = new Random(seed);
        this.name = "object " + seed + ", ";
        this.strengthTo = new int[] {40, 120, 400, 999}[seed % 4];
    }

    private int any(int below) {
        return random.nextInt(below);
    }

    /** A number of 0 to most, now and then one just outside, or far outside. */
    private int number(int most) {
        switch (any(60)) {
            case 0: return -1;
            case 1: return most + 1;
            case 2: return any(2) == 0 ? Integer.MIN_VALUE : Integer.MAX_VALUE;
            case 3: return most;
            case 4: return 0;
            default: return any(most + 1);
        }
    }

    private int strength() {
        return any(8) == 0 ? number(999) : any(strengthTo);
    }

    private int pillar() {
        int there = model.all(0);
        return any(30) == 0 ? number(11) : any(Math.max(1, there));
    }

    private void same(String call, long got, long want) {
        calls++;
        due.is(name + "call " + calls + ": " + call, got, want);
    }

    private void drawCall() {
        int kind = any(100);
        if (kind < 40) {
            changeMine(any(12));
        } else if (kind < 80) {
            ask(any(14));
        } else if (kind < 88) {
            typeText();
        } else if (kind < 93) {
            same("back", x.back(), model.back());
        } else {
            same("digest", x.digest(), model.digest());
        }
    }

    private void changeMine(int kind) {
        int p = pillar(), cell = number(95), s = strength(), v = number(9), way = number(1), on = number(1);
        int k = number(way == 0 ? 6 : 10), seed = number(999999);
        switch (kind) {
            case 0: same("weight " + cell + " " + v, x.weight(cell, v), model.weight(cell, v)); break;
            case 1: same("draw " + seed + " " + v, x.draw(seed, v), model.draw(seed, v)); break;
            case 2: same("strength " + p + " " + s, x.strength(p, s), model.strength(p, s)); break;
            case 3: same("wall " + way + " " + k + " " + on, x.wall(way, k, on), model.wall(way, k, on)); break;
            case 4: same("mends", x.mends(), model.mends()); break;
            case 5: if (any(5) == 0) same("anew", x.anew(), model.anew()); break;
            case 6: same("runs", x.runs(), model.runs()); break;
            case 7: same("loses " + p, x.loses(p), model.loses(p)); break;
            default: same("pillar " + cell + " " + s, x.pillar(cell, s), model.pillar(cell, s)); break;
        }
    }

    private void ask(int kind) {
        int p = pillar(), q = pillar(), what = number(1), cell = number(95), s = strength();
        int to5 = number(5), to7 = number(7), to2 = number(2), k = number(12), c = number(127);
        switch (kind) {
            case 0: same("of " + p + " " + to5, x.of(p, to5), model.of(p, to5)); break;
            case 1: same("rests " + cell, x.rests(cell), model.rests(cell)); break;
            case 2: same("all " + to7, x.all(to7), model.all(to7)); break;
            case 3: same("beside " + p + " " + q, x.beside(p, q), model.beside(p, q)); break;
            case 4: same("wave " + to2 + " " + k, x.wave(to2, k), model.wave(to2, k)); break;
            case 5: same("wave 1 " + p, x.wave(1, p), model.wave(1, p)); break;
            case 6: same("would " + p + " " + what, x.would(p, what), model.would(p, what)); break;
            case 7: same("worst " + what, x.worst(what), model.worst(what)); break;
            case 8: if (any(4) == 0) same("cut " + p, x.cut(p), model.cut(p)); break;
            case 9: same("mending", x.mending(), model.mending()); break;
            case 10: if (any(2) == 0) same("bestWall " + what, x.bestWall(what), model.bestWall(what)); break;
            case 11: if (any(8) == 0) same("bestCell " + s + " " + what, x.bestCell(s, what), model.bestCell(s, what)); break;
            case 12: same("told " + to5, x.told(to5), model.told(to5)); break;
            default: same("type " + c, x.type(c), model.type(c)); break;
        }
    }

    private String blanks(int least) {
        return " ".repeat(any(4) == 0 ? least + any(3) : least);
    }

    private String figures(int most) {
        String plain = Integer.toString(any(40) == 0 ? most + 1 : any(most + 1));
        return any(6) == 0 ? "0".repeat(any(4)) + plain : plain;
    }

    private String order() {
        String end = blanks(0) + ";" + blanks(0);
        String place = blanks(0) + figures(7) + blanks(1) + figures(11) + blanks(1);
        switch (any(9)) {
            case 0: return "w" + place + figures(9) + end;
            case 1: return "-" + blanks(0) + figures(6) + end;
            case 2: return "/" + blanks(0) + figures(10) + end;
            case 3: return "x" + blanks(0) + Math.max(0, pillar()) % 1000 + end;
            case 4: return "!" + end;
            default: return "p" + place + figures(any(5) == 0 ? 999 : strengthTo) + end;
        }
    }

    /** Orders, now and then with a byte changed, left out or put in, or cut short. */
    private String orders() {
        StringBuilder text = new StringBuilder(blanks(0));
        for (int n = any(9); n > 0; n--) text.append(order());
        for (int n = any(3) == 0 ? 1 + any(2) : 0; n > 0 && text.length() > 0; n--) {
            int at = any(text.length());
            char sign = SIGNS.charAt(any(SIGNS.length()));
            switch (any(4)) {
                case 0: text.setCharAt(at, sign); break;
                case 1: text.deleteCharAt(at); break;
                case 2: text.insert(at, sign); break;
                default: text.setLength(at); break;
            }
        }
        return text.toString();
    }

    private void typeText() {
        if (any(6) != 0) same("clear", x.clear(), model.clear());
        String text = orders();
        // the calls of one object are limited, so a text is typed as far as they go
        for (int i = 0; i < text.length() && calls < CALLS; i++) {
            int c = text.charAt(i);
            same("type " + c, x.type(c), model.type(c));
        }
        same("does \"" + text + "\"", x.does(), model.does());
    }

    public static void main(String[] args) {
        Due due = new Due();
        for (int seed = 0; seed < OBJECTS && due.isAllRight(); seed++) {
            ModelTest test = new ModelTest(seed, due);
            // a few steps may make no call, so that steps are counted, too
            for (int step = 0; step < 2 * CALLS && test.calls < CALLS && due.isAllRight(); step++) {
                test.drawCall();
            }
        }
        due.end();
    }
}
