import java.util.ArrayDeque;
import java.util.ArrayList;
import java.util.Deque;
import java.util.List;

/**
 * The document read as plainly as can be, with no thought of speed, to hold PillarRuns against. It shares no code
 * with the class and takes other ways where there are any: pillars are crushed one by one where only the end counts,
 * cuts and mendings are searched one by one, and the text is read as tokens.
 */
final class NaiveMine {
    private static final int NONE = -1, BAD = -2, NO = -3, FULL = -4;

    private static final class Pillar {
        int cell, strength;
        boolean stands = true;

        Pillar(int cell, int strength) {
            this.cell = cell;
            this.strength = strength;
        }
    }

    private static final class Roof {
        int[] weights = new int[96];
        List<Pillar> pillars = new ArrayList<>();
        boolean[] rowWalls = new boolean[7];
        boolean[] columnWalls = new boolean[11];

        Roof() {
            java.util.Arrays.fill(weights, 1);
        }

        Roof twin() {
            Roof twin = new Roof();
            twin.weights = weights.clone();
            twin.rowWalls = rowWalls.clone();
            twin.columnWalls = columnWalls.clone();
            for (Pillar pillar : pillars) {
                Pillar copy = new Pillar(pillar.cell, pillar.strength);
                copy.stands = pillar.stands;
                twin.pillars.add(copy);
            }
            return twin;
        }

        boolean oneRoom(int a, int b) {
            for (int r = Math.min(a / 12, b / 12); r < Math.max(a / 12, b / 12); r++) {
                if (rowWalls[r]) return false;
            }
            for (int c = Math.min(a % 12, b % 12); c < Math.max(a % 12, b % 12); c++) {
                if (columnWalls[c]) return false;
            }
            return true;
        }

        int restsOn(int cell) {
            int best = NONE, least = 1000;
            for (int p = pillars.size() - 1; p >= 0; p--) {
                Pillar pillar = pillars.get(p);
                int way = Math.abs(cell / 12 - pillar.cell / 12) + Math.abs(cell % 12 - pillar.cell % 12);
                if (pillar.stands && oneRoom(cell, pillar.cell) && way <= least) {
                    least = way;
                    best = p;
                }
            }
            return best;
        }

        int load(int p) {
            int load = 0;
            for (int cell = 0; cell < 96; cell++) if (restsOn(cell) == p) load += weights[cell];
            return load;
        }

        List<Integer> tooMuch() {
            int[] loads = new int[pillars.size()];
            for (int cell = 0; cell < 96; cell++) if (restsOn(cell) != NONE) loads[restsOn(cell)] += weights[cell];
            List<Integer> found = new ArrayList<>();
            for (int p = 0; p < loads.length; p++) {
                if (pillars.get(p).stands && loads[p] > pillars.get(p).strength) found.add(p);
            }
            return found;
        }

        int cellsOn(int p) {
            int count = 0;
            for (int cell = 0; cell < 96; cell++) if (restsOn(cell) == p) count++;
            return count;
        }

        int standing() {
            int count = 0;
            for (Pillar pillar : pillars) if (pillar.stands) count++;
            return count;
        }

        int fallen() {
            return cellsOn(NONE);
        }

        /** One at a time, the last first: the document says that the order tells nothing. */
        int crushOneByOne() {
            int crushed = 0;
            for (List<Integer> found = tooMuch(); !found.isEmpty(); found = tooMuch()) {
                pillars.get(found.get(found.size() - 1)).stands = false;
                crushed++;
            }
            return crushed;
        }

        List<List<Integer>> crushInWaves() {
            List<List<Integer>> waves = new ArrayList<>();
            for (List<Integer> found = tooMuch(); !found.isEmpty(); found = tooMuch()) {
                for (int p : found) pillars.get(p).stands = false;
                waves.add(found);
            }
            return waves;
        }

        boolean hasPillarOn(int cell) {
            for (Pillar pillar : pillars) if (pillar.cell == cell) return true;
            return false;
        }

        /** The least cell of each room is its name. */
        int roomOf(int cell) {
            for (int first = 0; first < 96; first++) if (oneRoom(first, cell)) return first;
            return cell;
        }
    }

    private Roof roof = new Roof();
    private List<List<Integer>> waves = new ArrayList<>();
    private final Deque<Roof> states = new ArrayDeque<>();
    private final StringBuilder text = new StringBuilder();
    private final int[] refused = new int[3];

    private int refuse(int why) {
        refused[-2 - why]++;
        return why;
    }

    private void keep() {
        states.push(roof.twin());
        if (states.size() > 6) states.removeLast();
    }

    private boolean isPillar(int p) {
        return p >= 0 && p < roof.pillars.size();
    }

    int pillar(int cell, int strength) {
        if (cell < 0 || cell > 95 || strength < 0 || strength > 999) return refuse(BAD);
        if (roof.hasPillarOn(cell)) return refuse(NO);
        if (roof.pillars.size() == 12) return refuse(FULL);
        keep();
        roof.pillars.add(new Pillar(cell, strength));
        return roof.pillars.size() - 1;
    }

    int weight(int cell, int v) {
        if (cell < 0 || cell > 95 || v < 0 || v > 9) return refuse(BAD);
        keep();
        int was = roof.weights[cell];
        roof.weights[cell] = v;
        return was;
    }

    int draw(int seed, int v) {
        if (seed < 0 || seed > 999999 || v < 0 || v > 9) return refuse(BAD);
        keep();
        java.math.BigInteger x = java.math.BigInteger.valueOf(seed);
        int together = 0;
        for (int cell = 0; cell < 96; cell++) {
            x = x.multiply(java.math.BigInteger.valueOf(1103515245)).add(java.math.BigInteger.valueOf(12345))
                    .mod(java.math.BigInteger.valueOf(2147483648L));
            roof.weights[cell] = x.divide(java.math.BigInteger.valueOf(65536))
                    .mod(java.math.BigInteger.valueOf(v + 1)).intValue();
            together += roof.weights[cell];
        }
        return together;
    }

    int strength(int p, int v) {
        if (!isPillar(p) || v < 0 || v > 999) return refuse(BAD);
        keep();
        int was = roof.pillars.get(p).strength;
        roof.pillars.get(p).strength = v;
        return was;
    }

    int wall(int way, int k, int on) {
        if (way != 0 && way != 1 || on != 0 && on != 1) return refuse(BAD);
        boolean[] walls = way == 0 ? roof.rowWalls : roof.columnWalls;
        if (k < 0 || k >= walls.length) return refuse(BAD);
        keep();
        int was = walls[k] ? 1 : 0;
        walls[k] = on == 1;
        return was;
    }

    int mends() {
        keep();
        waves = new ArrayList<>();
        int crushed = roof.pillars.size() - roof.standing();
        for (Pillar pillar : roof.pillars) pillar.stands = true;
        return crushed;
    }

    int anew() {
        keep();
        waves = new ArrayList<>();
        int had = roof.pillars.size();
        roof = new Roof();
        return had;
    }

    int of(int p, int what) {
        if (!isPillar(p) || what < 0 || what > 5) return refuse(BAD);
        Pillar pillar = roof.pillars.get(p);
        int[] answers = {pillar.cell, pillar.strength, pillar.stands ? 1 : 0, roof.load(p), roof.cellsOn(p),
            pillar.stands ? pillar.strength - roof.load(p) : -10000};
        return answers[what];
    }

    int rests(int cell) {
        return cell < 0 || cell > 95 ? refuse(BAD) : roof.restsOn(cell);
    }

    int all(int what) {
        if (what < 0 || what > 7) return refuse(BAD);
        int weight = 0;
        java.util.Set<Integer> rooms = new java.util.TreeSet<>(), held = new java.util.TreeSet<>();
        for (int cell = 0; cell < 96; cell++) {
            weight += roof.weights[cell];
            rooms.add(roof.roomOf(cell));
        }
        for (Pillar pillar : roof.pillars) if (pillar.stands) held.add(roof.roomOf(pillar.cell));
        int[] answers = {roof.pillars.size(), roof.standing(), roof.tooMuch().size(), roof.fallen(), roof.load(NONE), weight,
            rooms.size(), held.size()};
        return answers[what];
    }

    int beside(int p, int q) {
        if (!isPillar(p) || !isPillar(q) || p == q) return refuse(BAD);
        if (!roof.pillars.get(p).stands || !roof.pillars.get(q).stands) return refuse(BAD);
        for (int a = 0; a < 96; a++) {
            for (int b = 0; b < 96; b++) {
                int way = Math.abs(a / 12 - b / 12) + Math.abs(a % 12 - b % 12);
                if (way == 1 && roof.oneRoom(a, b) && roof.restsOn(a) == p && roof.restsOn(b) == q) return 1;
            }
        }
        return 0;
    }

    private static int crushed(List<List<Integer>> waves) {
        int count = 0;
        for (List<Integer> wave : waves) count += wave.size();
        return count;
    }

    int runs() {
        keep();
        waves = roof.crushInWaves();
        return crushed(waves);
    }

    int loses(int p) {
        if (!isPillar(p)) return refuse(BAD);
        if (!roof.pillars.get(p).stands) return refuse(NO);
        keep();
        roof.pillars.get(p).stands = false;
        waves = roof.crushInWaves();
        return 1 + crushed(waves);
    }

    int wave(int what, int k) {
        if (what == 0) return waves.size();
        if (what == 1 && isPillar(k)) {
            for (int w = 0; w < waves.size(); w++) if (waves.get(w).contains(k)) return w + 1;
            return NONE;
        }
        if (what == 2 && k >= 1) return k <= waves.size() ? waves.get(k - 1).size() : 0;
        return refuse(BAD);
    }

    private int loss(int p, int what) {
        Roof trial = roof.twin();
        trial.pillars.get(p).stands = false;
        int crushed = 1 + trial.crushOneByOne();
        return what == 0 ? crushed : trial.fallen();
    }

    int would(int p, int what) {
        if (!isPillar(p) || what < 0 || what > 1) return refuse(BAD);
        return roof.pillars.get(p).stands ? loss(p, what) : refuse(NO);
    }

    int worst(int what) {
        if (what < 0 || what > 1) return refuse(BAD);
        int worst = NONE, most = 0;
        for (int p = roof.pillars.size() - 1; p >= 0; p--) {
            if (roof.pillars.get(p).stands && loss(p, 0) >= most) {
                most = loss(p, 0);
                worst = p;
            }
        }
        return what == 0 ? worst : most;
    }

    int cut(int p) {
        if (!isPillar(p)) return refuse(BAD);
        if (!roof.pillars.get(p).stands) return refuse(NO);
        int without = roof.twin().crushOneByOne();
        for (int k = roof.pillars.get(p).strength; k > 0; k--) {
            Roof trial = roof.twin();
            trial.pillars.get(p).strength -= k;
            if (trial.crushOneByOne() <= without) return k;
        }
        return 0;
    }

    int mending() {
        for (int k = 0; k <= 999; k++) {
            Roof trial = roof.twin();
            for (Pillar pillar : trial.pillars) pillar.strength += k;
            if (trial.crushOneByOne() == 0) return k;
        }
        return NONE;
    }

    int bestWall(int what) {
        if (what < 0 || what > 1) return refuse(BAD);
        int best = NONE, most = NONE;
        for (int way = 0; way < 2; way++) {
            for (int k = 0; k < (way == 0 ? 7 : 11); k++) {
                Roof trial = roof.twin();
                boolean[] walls = way == 0 ? trial.rowWalls : trial.columnWalls;
                if (walls[k]) continue;
                walls[k] = true;
                trial.crushOneByOne();
                if (trial.standing() > most) {
                    most = trial.standing();
                    best = 10 * way + k;
                }
            }
        }
        return what == 0 ? best : most;
    }

    int bestCell(int s, int what) {
        if (s < 0 || s > 999 || what < 0 || what > 1) return refuse(BAD);
        if (roof.pillars.size() == 12) return refuse(NO);
        int best = NONE, most = NONE;
        for (int cell = 0; cell < 96; cell++) {
            if (roof.hasPillarOn(cell)) continue;
            Roof trial = roof.twin();
            trial.pillars.add(new Pillar(cell, s));
            trial.crushOneByOne();
            if (trial.standing() > most) {
                most = trial.standing();
                best = cell;
            }
        }
        return what == 0 ? best : most;
    }

    int type(int c) {
        if (c < 0 || c > 127) return refuse(BAD);
        if (text.length() == 120) return refuse(FULL);
        text.append((char) c);
        return text.length();
    }

    int clear() {
        int had = text.length();
        text.setLength(0);
        return had;
    }

    /** A run of figures, or one other sign; blanks are none. */
    private record Token(int at, String signs) {
        boolean isNumber() {
            return Character.isDigit(signs.charAt(0));
        }

        boolean isNumberTo(int most) {
            return isNumber() && signs.length() <= 3 && Integer.parseInt(signs) <= most;
        }
    }

    private List<Token> tokens() {
        List<Token> tokens = new ArrayList<>();
        java.util.regex.Matcher matcher = java.util.regex.Pattern.compile("[0-9]+|[^0-9 ]", java.util.regex.Pattern.DOTALL)
                .matcher(text);
        while (matcher.find()) tokens.add(new Token(matcher.start(), matcher.group()));
        return tokens;
    }

    private static int[] limits(char sign) {
        switch (sign) {
            case 'p': return new int[] {7, 11, 999};
            case 'w': return new int[] {7, 11, 9};
            case '-': return new int[] {6};
            case '/': return new int[] {10};
            case 'x': return new int[] {11};
            case '!': return new int[0];
            default: return null;
        }
    }

    /** The fault of one order, which starts at a token, on a roof; NONE, if it is done. */
    private int order(List<Token> tokens, int first, Roof trial) {
        Token sign = tokens.get(first);
        int[] limits = limits(sign.signs.charAt(0));
        if (limits == null) return sign.at;
        char kind = sign.signs.charAt(0);
        if (kind == 'p' && trial.pillars.size() == 12) return sign.at;
        int[] n = new int[limits.length];
        for (int i = 0; i <= limits.length; i++) {
            if (first + 1 + i >= tokens.size()) return text.length();
            Token token = tokens.get(first + 1 + i);
            if (i == limits.length) {
                if (!token.signs.equals(";")) return token.at;
            } else {
                if (!token.isNumberTo(limits[i])) return token.at;
                n[i] = Integer.parseInt(token.signs);
                if (kind == 'x' && (n[0] >= trial.pillars.size() || !trial.pillars.get(n[0]).stands)) return token.at;
            }
        }
        if (kind == 'p') {
            if (trial.hasPillarOn(12 * n[0] + n[1])) return sign.at;
            trial.pillars.add(new Pillar(12 * n[0] + n[1], n[2]));
        }
        if (kind == 'w') trial.weights[12 * n[0] + n[1]] = n[2];
        if (kind == '-') trial.rowWalls[n[0]] = true;
        if (kind == '/') trial.columnWalls[n[0]] = true;
        if (kind == 'x') trial.pillars.get(n[0]).stands = false;
        return NONE;
    }

    int does() {
        List<Token> tokens = tokens();
        if (tokens.isEmpty()) return -10 - text.length();
        Roof trial = roof.twin();
        List<List<Integer>> trialWaves = waves;
        int next = 0;
        while (next < tokens.size()) {
            int fault = order(tokens, next, trial);
            if (fault != NONE) return -10 - fault;
            char sign = tokens.get(next).signs.charAt(0);
            if (sign == '!') trialWaves = trial.crushInWaves();
            next += 2 + limits(sign).length;
        }
        keep();
        roof = trial;
        waves = trialWaves;
        return roof.standing();
    }

    int back() {
        if (states.isEmpty()) return refuse(NO);
        roof = states.pop();
        waves = new ArrayList<>();
        return states.size();
    }

    int told(int what) {
        if (what < 0 || what > 5) return refuse(BAD);
        int walls = 0;
        for (boolean wall : roof.rowWalls) if (wall) walls++;
        for (boolean wall : roof.columnWalls) if (wall) walls++;
        int[] answers = {refused[0], refused[1], refused[2], text.length(), walls, states.size()};
        return answers[what];
    }

    long digest() {
        long h = 2153;
        for (int what = 0; what <= 5; what++) h = 31 * h + told(what);
        for (int what = 0; what <= 7; what++) h = 31 * h + all(what);
        for (int p = 0; p < roof.pillars.size(); p++) {
            for (int what = 0; what <= 4; what++) h = 31 * h + of(p, what);
        }
        for (int weight : roof.weights) h = 31 * h + weight;
        return h;
    }
}
