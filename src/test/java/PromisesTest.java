/** Each promise by itself: ordinary inputs, the edges that the document names, and wrong inputs. */
public final class PromisesTest {
    private static final int NONE = -1, BAD = -2, NO = -3, FULL = -4;
    private static final int LEAST = Integer.MIN_VALUE, MOST = Integer.MAX_VALUE;

    private final Due due = new Due();

    private void is(String call, long got, long want) {
        due.is(call, got, want);
    }

    /** Twelve pillars in the first row, of one strength. */
    private static PillarRuns firstRow(int strength) {
        PillarRuns x = new PillarRuns();
        for (int cell = 0; cell < 12; cell++) {
            x.pillar(cell, strength);
        }
        return x;
    }

    /** Pillars in three corners, which bear 24, 42 and 30. Without the last one the first two bear 48 each. */
    private static PillarRuns threeHeld() {
        PillarRuns x = new PillarRuns();
        x.pillar(0, 24);
        x.pillar(11, 48);
        x.pillar(84, 30);
        return x;
    }

    private static void type(PillarRuns x, String text) {
        for (int i = 0; i < text.length(); i++) {
            x.type(text.charAt(i));
        }
    }

    private void promise1NewObject() {
        PillarRuns x = new PillarRuns();
        int[] all = {0, 0, 0, 96, 96, 96, 1, 0};
        for (int what = 0; what <= 7; what++) is("1: all " + what, x.all(what), all[what]);
        for (int what = 0; what <= 5; what++) is("1: told " + what, x.told(what), 0);
        for (int cell = 0; cell < 96; cell++) is("1: rests " + cell, x.rests(cell), NONE);
        is("1: wave", x.wave(0, 0), 0);
        for (int cell = 0; cell < 96; cell++) is("1: weight", x.weight(cell, 1), 1);
        for (int k = 0; k <= 6; k++) is("1: row wall", x.wall(0, k, 0), 0);
        for (int k = 0; k <= 10; k++) is("1: column wall", x.wall(1, k, 0), 0);
        PillarRuns y = new PillarRuns();
        y.pillar(5, 5);
        is("1: objects share nothing", x.all(0), 0);
    }

    private void promise2Pillar() {
        PillarRuns x = new PillarRuns();
        is("2: first", x.pillar(95, 999), 0);
        is("2: second", x.pillar(0, 0), 1);
        is("2: a state each", x.told(5), 2);
        int[][] bad = {{-1, 0}, {96, 0}, {1, -1}, {1, 1000}, {LEAST, 1}, {MOST, 1}, {1, LEAST}, {1, MOST}, {0, 1000}};
        for (int[] b : bad) is("2: bad " + b[0] + " " + b[1], x.pillar(b[0], b[1]), BAD);
        is("2: there is one", x.pillar(95, 3), NO);
        is("2: it stays as it was", x.of(0, 1), 999);
        x.loses(1);
        is("2: there is a crushed one", x.pillar(0, 3), NO);
        is("2: refused leave no state", x.told(5), 3);
        PillarRuns full = firstRow(9);
        is("2: full", full.pillar(12, 9), FULL);
        is("2: of full and no: no", full.pillar(11, 9), NO);
        is("2: of full and bad: bad", full.pillar(96, 9), BAD);
        is("2: how often bad", full.told(0), 1);
        is("2: how often no", full.told(1), 1);
        is("2: how often full", full.told(2), 1);
        is("2: still twelve", full.all(0), 12);
    }

    private void promise3Weight() {
        PillarRuns x = new PillarRuns();
        is("3: was 1", x.weight(95, 9), 1);
        is("3: was 9", x.weight(95, 0), 9);
        is("3: was 0", x.weight(95, 5), 0);
        is("3: first cell", x.weight(0, 7), 1);
        is("3: all weights", x.all(5), 94 + 5 + 7);
        is("3: states", x.told(5), 4);
        int[][] bad = {{-1, 0}, {96, 0}, {0, -1}, {0, 10}, {LEAST, 0}, {0, MOST}};
        for (int[] b : bad) is("3: bad", x.weight(b[0], b[1]), BAD);
        is("3: nothing changed", x.all(5), 94 + 5 + 7);
        is("3: refused", x.told(0), 6);
        is("3: no state", x.told(5), 4);
    }

    private void promise4Draw() {
        PillarRuns x = new PillarRuns();
        long seed = 999999, sum = 0;
        int[] drawn = new int[96];
        for (int cell = 0; cell < 96; cell++) {
            seed = (seed * 1103515245L + 12345L) & 0x7fffffffL;
            drawn[cell] = (int) ((seed >> 16) % 8);
            sum += drawn[cell];
        }
        is("4: all together", x.draw(999999, 7), sum);
        is("4: as all tells", x.all(5), sum);
        is("4: a state", x.told(5), 1);
        for (int cell = 0; cell < 96; cell++) is("4: cell " + cell, x.weight(cell, 0), drawn[cell]);
        is("4: up to 0", x.draw(3, 0), 0);
        is("4: seed 7", x.draw(7, 9), 429);
        is("4: seed 0 draws, too", x.draw(0, 1) > 0 ? 1 : 0, 1);
        int before = x.all(5);
        int[][] bad = {{-1, 5}, {1000000, 5}, {5, -1}, {5, 10}, {LEAST, 5}, {5, MOST}};
        for (int[] b : bad) is("4: bad", x.draw(b[0], b[1]), BAD);
        is("4: nothing changed", x.all(5), before);
    }

    private void promise5Strength() {
        PillarRuns x = new PillarRuns();
        x.pillar(40, 100);
        is("5: was", x.strength(0, 0), 100);
        is("5: was 0", x.strength(0, 999), 0);
        is("5: is", x.of(0, 1), 999);
        is("5: states", x.told(5), 3);
        int[][] bad = {{-1, 0}, {1, 0}, {0, -1}, {0, 1000}, {12, 5}, {LEAST, 5}, {MOST, 5}};
        for (int[] b : bad) is("5: bad", x.strength(b[0], b[1]), BAD);
        is("5: no state", x.told(5), 3);
        x.loses(0);
        is("5: of a crushed one, too", x.strength(0, 7), 999);
        is("5: it stays crushed", x.of(0, 2), 0);
    }

    private void promise6Wall() {
        PillarRuns x = new PillarRuns();
        is("6: was not", x.wall(0, 6, 1), 0);
        is("6: was", x.wall(0, 6, 1), 1);
        is("6: two rooms", x.all(6), 2);
        is("6: a column", x.wall(1, 10, 1), 0);
        is("6: four rooms", x.all(6), 4);
        is("6: walls", x.told(4), 2);
        is("6: states", x.told(5), 3);
        is("6: off", x.wall(0, 6, 0), 1);
        is("6: row 0 is not column 0", x.wall(0, 0, 1), 0);
        is("6: column 0", x.wall(1, 0, 0), 0);
        int[][] bad = {{-1, 0, 0}, {2, 0, 0}, {0, -1, 0}, {0, 7, 0}, {1, -1, 0}, {1, 11, 0}, {0, 0, -1}, {1, 0, 2},
            {MOST, 0, 0}, {0, LEAST, 0}, {1, MOST, 1}};
        for (int[] b : bad) is("6: bad", x.wall(b[0], b[1], b[2]), BAD);
        is("6: refused", x.told(0), bad.length);
        is("6: walls then", x.told(4), 2);
        x.pillar(1, 50);
        is("6: above the wall", x.rests(11), NONE);
        is("6: left of it", x.rests(10), 0);
        is("6: below it", x.rests(13), NONE);
    }

    private void promise7Mends() {
        PillarRuns x = new PillarRuns();
        is("7: none there", x.mends(), 0);
        is("7: a state all the same", x.told(5), 1);
        x.pillar(0, 10);
        x.pillar(50, 10);
        x.runs();
        is("7: both crushed", x.all(1), 0);
        is("7: how many were", x.mends(), 2);
        is("7: stand again", x.all(1), 2);
        is("7: strengths stay", x.of(1, 1), 10);
        is("7: waves none", x.wave(0, 0), 0);
        is("7: none in a wave", x.wave(1, 0), NONE);
        is("7: none was", x.mends(), 0);
    }

    private void promise8Anew() {
        PillarRuns x = new PillarRuns();
        is("8: none there", x.anew(), 0);
        x.pillar(0, 10);
        x.pillar(1, 10);
        x.pillar(1, 10);
        x.wall(0, 1, 1);
        x.weight(9, 9);
        x.type(65);
        x.runs();
        is("8: how many there were", x.anew(), 2);
        is("8: no pillars", x.all(0), 0);
        is("8: weights", x.all(5), 96);
        is("8: walls", x.told(4), 0);
        is("8: text stays", x.told(3), 1);
        is("8: how often refused stays", x.told(1), 1);
        is("8: states stay", x.told(5), 6);
        is("8: waves none", x.wave(0, 0), 0);
        is("8: no pillar to ask for", x.of(0, 0), BAD);
        is("8: back", x.back(), 5);
        is("8: pillars are there again", x.all(0), 2);
        is("8: so is the wall", x.told(4), 1);
        is("8: so are the weights", x.all(5), 104);
        x.anew();
        is("8: numbers from 0 on", x.pillar(33, 1), 0);
    }

    private void promise9Of() {
        PillarRuns x = new PillarRuns();
        x.pillar(0, 50);
        x.pillar(95, 40);
        x.weight(95, 9);
        int[] first = {0, 50, 1, 52, 52, -2};
        int[] second = {95, 40, 1, 52, 44, -12};
        for (int what = 0; what <= 5; what++) is("9: of 0 " + what, x.of(0, what), first[what]);
        for (int what = 0; what <= 5; what++) is("9: of 1 " + what, x.of(1, what), second[what]);
        x.loses(0);
        int[] crushed = {0, 50, 0, 0, 0, -10000};
        for (int what = 0; what <= 5; what++) is("9: crushed " + what, x.of(0, what), crushed[what]);
        int[][] bad = {{-1, 0}, {2, 0}, {0, -1}, {0, 6}, {LEAST, 0}, {MOST, 0}, {0, MOST}, {11, 0}};
        for (int[] b : bad) is("9: bad", x.of(b[0], b[1]), BAD);
        is("9: refused", x.told(0), bad.length);
    }

    private void promise10Rests() {
        PillarRuns x = new PillarRuns();
        x.pillar(24, 99);
        x.pillar(2, 99);
        is("10: of like ones the least", x.rests(0), 0);
        is("10: rows and columns together", x.rests(13), 0);
        is("10: nearer", x.rests(1), 1);
        is("10: on its own cell", x.rests(2), 1);
        is("10: last cell", x.rests(95), 0);
        x.wall(0, 0, 1);
        is("10: on its side of the wall", x.rests(0), 1);
        is("10: on the other", x.rests(14), 0);
        x.loses(1);
        is("10: fallen", x.rests(2), NONE);
        is("10: bad", x.rests(-1), BAD);
        is("10: bad", x.rests(96), BAD);
        is("10: bad", x.rests(LEAST), BAD);
        is("10: bad", x.rests(MOST), BAD);
        is("10: refused", x.told(0), 4);
    }

    private void promise11All() {
        PillarRuns x = new PillarRuns();
        x.wall(0, 3, 1);
        x.wall(1, 5, 1);
        x.pillar(0, 23);
        x.pillar(1, 24);
        x.pillar(11, 24);
        x.pillar(95, 24);
        x.weight(50, 9);
        int[] all = {4, 4, 0, 24, 32, 104, 4, 3};
        for (int what = 0; what <= 7; what++) is("11: all " + what, x.all(what), all[what]);
        x.weight(80, 2);
        is("11: too much", x.all(2), 1);
        x.loses(3);
        int[] then = {4, 3, 0, 48, 57, 105, 4, 2};
        for (int what = 0; what <= 7; what++) is("11: then " + what, x.all(what), then[what]);
        is("11: bad", x.all(-1), BAD);
        is("11: bad", x.all(8), BAD);
        is("11: bad", x.all(LEAST), BAD);
        is("11: refused", x.told(0), 3);
    }

    private void promise12Beside() {
        PillarRuns x = new PillarRuns();
        x.pillar(0, 999);
        x.pillar(5, 999);
        x.pillar(11, 999);
        x.pillar(94, 999);
        is("12: beside", x.beside(0, 1), 1);
        is("12: either way", x.beside(1, 0), 1);
        is("12: one between", x.beside(0, 2), 0);
        is("12: above and below", x.beside(2, 3), 1);
        x.wall(0, 3, 1);
        is("12: a wall between", x.beside(2, 3), 0);
        is("12: none between", x.beside(1, 2), 1);
        x.wall(1, 2, 1);
        is("12: a column's wall", x.beside(0, 1), 0);
        is("12: and back", x.beside(1, 0), 0);
        x.loses(1);
        int[][] bad = {{0, 0}, {0, 1}, {1, 0}, {-1, 0}, {0, 4}, {4, 0}, {0, -1}, {LEAST, 0}, {0, MOST}, {1, 1}, {7, 7}};
        for (int[] b : bad) is("12: bad " + b[0] + " " + b[1], x.beside(b[0], b[1]), BAD);
        is("12: refused", x.told(0), bad.length);
    }

    private void promise13Runs() {
        PillarRuns x = new PillarRuns();
        is("13: none there", x.runs(), 0);
        is("13: a state", x.told(5), 1);
        x.pillar(0, 96);
        is("13: load as strength is not too much", x.runs(), 0);
        x.strength(0, 95);
        is("13: above it is", x.runs(), 1);
        is("13: crushed", x.of(0, 2), 0);
        is("13: once only", x.runs(), 0);
        PillarRuns y = threeHeld();
        is("13: held", y.runs(), 0);
        y.strength(1, 42);
        is("13: just held", y.runs(), 0);
        y.strength(1, 41);
        is("13: one brings all down", y.runs(), 3);
        is("13: all fallen", y.all(3), 96);
        PillarRuns z = threeHeld();
        z.wall(0, 3, 1);
        z.wall(1, 5, 1);
        z.strength(1, 23);
        is("13: a wall stops it", z.runs(), 1);
        is("13: two left", z.all(1), 2);
    }

    private void promise14Loses() {
        PillarRuns x = threeHeld();
        is("14: all", x.loses(2), 3);
        is("14: states", x.told(5), 4);
        is("14: crushed", x.loses(2), NO);
        is("14: crushed by the run", x.loses(0), NO);
        int[] bad = {-1, 3, 12, LEAST, MOST};
        for (int b : bad) is("14: bad " + b, x.loses(b), BAD);
        is("14: no states", x.told(5), 4);
        is("14: how often bad", x.told(0), 5);
        is("14: how often no", x.told(1), 2);
        x.mends();
        x.strength(0, 999);
        x.strength(1, 47);
        is("14: itself and one that gets more", x.loses(2), 2);
        is("14: the strong one is left", x.all(1), 1);
        x.mends();
        x.wall(0, 3, 1);
        is("14: itself alone", x.loses(2), 1);
    }

    private void promise15Wave() {
        PillarRuns x = threeHeld();
        is("15: none at first", x.wave(0, 0), 0);
        is("15: none at first", x.wave(1, 0), NONE);
        is("15: none at first", x.wave(2, 1), 0);
        x.loses(2);
        is("15: waves", x.wave(0, 0), 2);
        is("15: of what 0 k counts not", x.wave(0, LEAST), 2);
        is("15: of what 0 k counts not", x.wave(0, MOST), 2);
        is("15: the first", x.wave(1, 0), 1);
        is("15: the second", x.wave(1, 1), 2);
        is("15: the lost one is in none", x.wave(1, 2), NONE);
        is("15: one in wave 1", x.wave(2, 1), 1);
        is("15: one in wave 2", x.wave(2, 2), 1);
        is("15: none in wave 3", x.wave(2, 3), 0);
        is("15: none in the furthest", x.wave(2, MOST), 0);
        x.pillar(50, 999);
        x.weight(3, 3);
        x.strength(0, 1);
        x.wall(1, 3, 1);
        x.draw(1, 1);
        x.would(3, 0);
        x.worst(0);
        x.cut(3);
        x.bestWall(0);
        x.bestCell(1, 0);
        x.mending();
        x.does();
        is("15: it stays", x.wave(0, 0), 2);
        is("15: it stays", x.wave(1, 1), 2);
        is("15: a new one is in none", x.wave(1, 3), NONE);
        int[][] bad = {{-1, 0}, {3, 1}, {1, -1}, {1, 4}, {2, 0}, {2, -1}, {1, LEAST}, {1, MOST}, {2, LEAST}, {MOST, 1}};
        for (int[] b : bad) is("15: bad " + b[0] + " " + b[1], x.wave(b[0], b[1]), BAD);
        is("15: refused", x.told(0), bad.length);
        is("15: a run of none", x.runs(), 0);
        is("15: is the last one", x.wave(0, 0), 0);
        is("15: and has crushed none", x.wave(1, 0), NONE);
        mostWaves();
        wavesAreForgotten();
        wavesOfTexts();
    }

    /** Each pillar holds its column, but not with the columns of all before it: twelve waves of one. */
    private void mostWaves() {
        PillarRuns x = new PillarRuns();
        for (int p = 0; p < 12; p++) x.pillar(p, 8 * p + 7);
        is("15: all fall without the first", x.would(0, 1), 96);
        x.strength(11, 96);
        is("15: the last one could hold all", x.would(0, 0), 11);
        is("15: and have none to spare", x.cut(11), 0);
        x.strength(11, 95);
        type(x, "!;");
        for (int way = 0; way < 2; way++) {
            is("15: all twelve", way == 0 ? 12 - x.does() : x.runs(), 12);
            is("15: twelve waves", x.wave(0, 0), 12);
            for (int p = 0; p < 12; p++) {
                is("15: wave of pillar " + p, x.wave(1, p), p + 1);
                is("15: in wave " + (p + 1), x.wave(2, p + 1), 1);
            }
            is("15: none in a 13th", x.wave(2, 13), 0);
            x.mends();
        }
    }

    private void wavesAreForgotten() {
        for (int way = 0; way < 3; way++) {
            PillarRuns x = threeHeld();
            x.loses(2);
            x.loses(2);
            is("15: refused changes nothing", x.wave(0, 0), 2);
            if (way == 0) x.mends();
            if (way == 1) x.anew();
            if (way == 2) x.back();
            is("15: none behind it, " + way, x.wave(0, 0), 0);
            is("15: none behind it, " + way, x.wave(2, 1), 0);
            is("15: none behind it, " + way, x.wave(1, 0), way == 1 ? BAD : NONE);
        }
    }

    private void wavesOfTexts() {
        PillarRuns x = threeHeld();
        type(x, "x2;!;");
        is("15: by text", x.does(), 0);
        is("15: waves of a text", x.wave(0, 0), 2);
        x.clear();
        type(x, "w 0 0 1;");
        x.does();
        is("15: a text without a run leaves it", x.wave(0, 0), 2);
        x.clear();
        type(x, "!;?");
        x.does();
        is("15: one with a fault, too", x.wave(0, 0), 2);
        x.clear();
        type(x, "p 5 5 0;!;!;");
        x.does();
        is("15: the last run of a text", x.wave(0, 0), 0);
    }

    private void promise16Would() {
        PillarRuns x = threeHeld();
        is("16: crushed", x.would(2, 0), 3);
        is("16: fallen", x.would(2, 1), 96);
        is("16: all stays", x.all(1), 3);
        is("16: no states", x.told(5), 3);
        x.strength(0, 999);
        is("16: itself alone", x.would(2, 0), 1);
        x.strength(1, 47);
        is("16: crushed", x.would(2, 0), 2);
        is("16: fallen", x.would(2, 1), 0);
        x.wall(0, 3, 1);
        is("16: its room falls", x.would(2, 1), 48);
        is("16: itself alone", x.would(2, 0), 1);
        x.loses(2);
        is("16: fallen before count, too", x.would(1, 1), 48);
        is("16: no", x.would(2, 0), NO);
        is("16: no", x.would(2, 1), NO);
        is("16: of bad and no: bad", x.would(2, 2), BAD);
        int[][] bad = {{-1, 0}, {3, 0}, {0, -1}, {0, 2}, {LEAST, 0}, {MOST, 1}};
        for (int[] b : bad) is("16: bad", x.would(b[0], b[1]), BAD);
        is("16: how often bad", x.told(0), 7);
        is("16: how often no", x.told(1), 2);
        PillarRuns y = new PillarRuns();
        y.pillar(0, 1);
        y.pillar(95, 999);
        is("16: those of the run that comes anyway count, too", y.would(1, 0), 2);
    }

    private void promise17Worst() {
        PillarRuns x = new PillarRuns();
        is("17: none", x.worst(0), NONE);
        is("17: none", x.worst(1), 0);
        PillarRuns y = threeHeld();
        is("17: of like ones the least", y.worst(0), 0);
        is("17: how many", y.worst(1), 3);
        y.strength(2, 999);
        is("17: the strong one", y.worst(0), 2);
        is("17: brings all down", y.worst(1), 3);
        y.loses(2);
        is("17: none stands", y.worst(0), NONE);
        is("17: none stands", y.worst(1), 0);
        is("17: bad", y.worst(-1), BAD);
        is("17: bad", y.worst(2), BAD);
        is("17: refused", y.told(0), 2);
        is("17: no states", y.told(5), 5);
        PillarRuns z = firstRow(999);
        z.loses(0);
        is("17: crushed ones are none", z.worst(0), 1);
        is("17: itself alone", z.worst(1), 1);
    }

    private void promise18Cut() {
        PillarRuns x = new PillarRuns();
        x.pillar(0, 100);
        is("18: to its load", x.cut(0), 4);
        x.strength(0, 96);
        is("18: none to spare", x.cut(0), 0);
        x.strength(0, 95);
        is("18: crushed anyway: all", x.cut(0), 95);
        x.strength(0, 0);
        is("18: no strength", x.cut(0), 0);
        x.strength(0, 999);
        x.pillar(95, 0);
        is("18: what it will bear counts", x.cut(0), 903);
        is("18: all stays", x.of(0, 1), 999);
        x.runs();
        is("18: no", x.cut(1), NO);
        int[] bad = {-1, 2, LEAST, MOST};
        for (int b : bad) is("18: bad", x.cut(b), BAD);
        is("18: how often bad", x.told(0), 4);
        is("18: how often no", x.told(1), 1);
    }

    private void promise19Mending() {
        PillarRuns x = new PillarRuns();
        is("19: no pillars", x.mending(), 0);
        x.pillar(0, 96);
        is("19: held", x.mending(), 0);
        x.strength(0, 95);
        is("19: one", x.mending(), 1);
        for (int cell = 0; cell < 96; cell++) x.weight(cell, 9);
        x.strength(0, 0);
        is("19: most of all", x.mending(), 864);
        x.pillar(95, 0);
        is("19: the one that lacks most", x.mending(), 468);
        x.strength(0, 100);
        is("19: the other then", x.mending(), 396);
        is("19: all stays", x.of(0, 1), 100);
        x.loses(0);
        is("19: the crushed ones lack nothing", x.mending(), 0);
    }

    private void promise20BestWall() {
        PillarRuns x = new PillarRuns();
        is("20: of like ones the least", x.bestWall(0), 0);
        is("20: none stand", x.bestWall(1), 0);
        x.pillar(36, 8);
        x.pillar(47, 88);
        is("20: one bears too much", x.all(2), 1);
        is("20: a column's wall", x.bestWall(0), 10);
        is("20: both stand", x.bestWall(1), 2);
        is("20: all stays", x.told(4), 0);
        x.wall(1, 0, 1);
        is("20: it is there: another", x.bestWall(0), 0);
        is("20: they stand anyway", x.bestWall(1), 2);
        PillarRuns y = new PillarRuns();
        y.pillar(0, 999);
        y.pillar(95, 8);
        is("20: the last one", y.bestWall(0), 20);
        for (int k = 0; k <= 6; k++) y.wall(0, k, 1);
        is("20: rows are there", y.bestWall(0), 13);
        for (int k = 0; k <= 9; k++) y.wall(1, k, 1);
        is("20: one is left", y.bestWall(0), 20);
        y.wall(1, 10, 1);
        is("20: all are there", y.bestWall(0), NONE);
        is("20: all are there", y.bestWall(1), NONE);
        is("20: bad", y.bestWall(-1), BAD);
        is("20: bad", y.bestWall(2), BAD);
        is("20: refused", y.told(0), 2);
    }

    private void promise21BestCell() {
        PillarRuns x = new PillarRuns();
        is("21: first", x.bestCell(96, 0), 0);
        is("21: it stands", x.bestCell(96, 1), 1);
        is("21: of like ones the first", x.bestCell(95, 0), 0);
        is("21: it does not stand", x.bestCell(95, 1), 0);
        x.pillar(0, 48);
        is("21: a cell that takes half, and holds it", x.bestCell(48, 0), 10);
        is("21: both", x.bestCell(48, 1), 2);
        is("21: all stays", x.all(0), 1);
        is("21: no states", x.told(5), 1);
        x.loses(0);
        is("21: not on a crushed one", x.bestCell(999, 0), 1);
        x.pillar(1, 999);
        is("21: nor on a standing one", x.bestCell(999, 0), 2);
        int[][] bad = {{-1, 0}, {1000, 0}, {0, -1}, {0, 2}, {LEAST, 0}, {0, MOST}};
        for (int[] b : bad) is("21: bad", x.bestCell(b[0], b[1]), BAD);
        is("21: how often bad", x.told(0), 6);
        PillarRuns y = firstRow(999);
        is("21: twelve", y.bestCell(5, 0), NO);
        is("21: twelve", y.bestCell(5, 1), NO);
        is("21: of bad and no: bad", y.bestCell(5, 2), BAD);
        is("21: how often no", y.told(1), 2);
        y.back();
        is("21: eleven", y.bestCell(999, 1), 12);
    }

    private void promise22Type() {
        PillarRuns x = new PillarRuns();
        is("22: bad", x.type(-1), BAD);
        is("22: bad", x.type(128), BAD);
        is("22: bad", x.type(LEAST), BAD);
        for (int i = 1; i <= 120; i++) is("22: byte " + i, x.type(i), i);
        is("22: full", x.type(0), FULL);
        is("22: of bad and full: bad", x.type(128), BAD);
        is("22: how often bad", x.told(0), 4);
        is("22: how often full", x.told(2), 1);
        is("22: bytes", x.told(3), 120);
        is("22: no states", x.told(5), 0);
        x.clear();
        is("22: least byte", x.type(0), 1);
        is("22: most byte", x.type(127), 2);
    }

    private void promise23Clear() {
        PillarRuns x = new PillarRuns();
        is("23: had none", x.clear(), 0);
        type(x, "p 0 0 1;");
        is("23: had 8", x.clear(), 8);
        is("23: is empty", x.told(3), 0);
        is("23: had none", x.clear(), 0);
        is("23: nothing to do", x.does(), -10);
        is("23: no states", x.told(5), 0);
    }

    private void promise25Back() {
        PillarRuns x = new PillarRuns();
        is("25: none", x.back(), NO);
        is("25: refused", x.told(1), 1);
        for (int i = 0; i < 8; i++) x.pillar(i, i);
        is("25: six at most", x.told(5), 6);
        for (int left = 5; left >= 0; left--) {
            is("25: can be yet", x.back(), left);
            is("25: pillars", x.all(0), 2 + left);
        }
        is("25: older ones are lost", x.back(), NO);
        is("25: nothing changed", x.all(0), 2);
        x.weight(5, 9);
        x.wall(0, 2, 1);
        x.wall(1, 2, 1);
        x.strength(1, 500);
        x.runs();
        is("25: pillar 0 is crushed", x.of(0, 2), 0);
        is("25: back", x.back(), 4);
        is("25: it stands", x.of(0, 2), 1);
        is("25: back", x.back(), 3);
        is("25: its strength", x.of(1, 1), 1);
        is("25: back", x.back(), 2);
        is("25: a wall", x.told(4), 1);
        is("25: back", x.back(), 1);
        is("25: no wall", x.told(4), 0);
        type(x, "abc");
        x.all(-1);
        is("25: back", x.back(), 0);
        is("25: the weight", x.all(5), 96);
        is("25: the text stays", x.told(3), 3);
        is("25: how often refused stays", x.told(0), 1);
        is("25: how often refused stays", x.told(1), 2);
        x.mends();
        x.back();
        x.runs();
        is("25: a state in place of the one gone", x.told(5), 1);
    }

    private void promise26Told() {
        PillarRuns x = firstRow(1);
        x.all(9);
        x.all(9);
        x.all(9);
        x.pillar(0, 0);
        x.pillar(0, 0);
        x.pillar(90, 0);
        type(x, "!;;");
        x.wall(0, 1, 1);
        x.does();
        int[] told = {3, 2, 1, 3, 1, 6};
        for (int what = 0; what <= 5; what++) is("26: told " + what, x.told(what), told[what]);
        is("26: bad", x.told(-1), BAD);
        is("26: bad", x.told(6), BAD);
        is("26: bad", x.told(MOST), BAD);
        is("26: counts, too", x.told(0), 6);
    }

    private void promise27Digest() {
        PillarRuns x = new PillarRuns();
        long h = 2153;
        int[] first = {0, 0, 0, 0, 0, 0, 0, 0, 0, 96, 96, 96, 1, 0};
        for (int v : first) h = 31 * h + v;
        for (int cell = 0; cell < 96; cell++) h = 31 * h + 1;
        is("27: new", x.digest(), h);
        x.pillar(0, 50);
        x.pillar(95, 40);
        x.weight(95, 9);
        x.wall(1, 5, 1);
        x.loses(0);
        x.all(8);
        x.loses(0);
        type(x, "ab");
        h = 2153;
        int[] then = {1, 1, 0, 2, 1, 5, 2, 0, 0, 96, 104, 104, 2, 0, 0, 50, 0, 0, 0, 95, 40, 0, 0, 0};
        for (int v : then) h = 31 * h + v;
        for (int cell = 0; cell < 95; cell++) h = 31 * h + 1;
        is("27: then", x.digest(), 31 * h + 9);
        x.back();
        h = 2153;
        int[] back = {1, 1, 0, 2, 1, 4, 2, 2, 1, 0, 0, 104, 2, 2, 0, 50, 1, 48, 48, 95, 40, 1, 56, 48};
        for (int v : back) h = 31 * h + v;
        for (int cell = 0; cell < 95; cell++) h = 31 * h + 1;
        is("27: standing", x.digest(), 31 * h + 9);
        is("27: changes nothing", x.digest(), 31 * h + 9);
    }

    public static void main(String[] args) {
        PromisesTest test = new PromisesTest();
        test.promise1NewObject();
        test.promise2Pillar();
        test.promise3Weight();
        test.promise4Draw();
        test.promise5Strength();
        test.promise6Wall();
        test.promise7Mends();
        test.promise8Anew();
        test.promise9Of();
        test.promise10Rests();
        test.promise11All();
        test.promise12Beside();
        test.promise13Runs();
        test.promise14Loses();
        test.promise15Wave();
        test.promise16Would();
        test.promise17Worst();
        test.promise18Cut();
        test.promise19Mending();
        test.promise20BestWall();
        test.promise21BestCell();
        test.promise22Type();
        test.promise23Clear();
        test.promise25Back();
        test.promise26Told();
        test.promise27Digest();
        test.due.end();
    }
}
