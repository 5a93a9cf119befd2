import java.util.Arrays;

/** A mine held up by pillars, its runs, and what could be done to it. */
public final class PillarRuns {
    public static final int NONE = -1, BAD = -2, NO = -3, FULL = -4;

    private static final int ROWS = 8;
    private static final int COLUMNS = 12;
    private static final int CELLS = 96;
    private static final int MOST_PILLARS = 12;
    private static final int MOST_STRENGTH = 999;
    private static final int MOST_WEIGHT = 9;
    private static final int MOST_SEED = 999999;
    private static final int MOST_BYTES = 120;
    private static final int MOST_STATES = 6;
    private static final int MOST_FIGURES = 3;
    /** Walls are numbered as bestWall tells them: rows from 0 on, columns from 10 on, 7 to 9 stand for none. */
    private static final int FIRST_ROW_WALL = 0;
    private static final int FIRST_COLUMN_WALL = 10;
    private static final int WALL_NUMBERS = 21;
    /** Further than any two cells are apart. */
    private static final int FAR = 100;
    private static final int SPARE_OF_CRUSHED = -10000;
    private static final int FAULT_AT_START = -10;

    private final Mine mine = new Mine();
    private final Bearing bearing = new Bearing();
    private final Run lastRun = new Run();
    private final States states = new States();
    private final Trial trial = new Trial();
    private final Text text = new Text();
    private final int[] refusals = new int[3];

    public PillarRuns() {
    }

    // ---- the mine

    public int pillar(int cell, int strength) {
        if (!isCell(cell) || !isStrength(strength)) {
            return refuse(BAD);
        }
        if (mine.hasPillarOn(cell)) {
            return refuse(NO);
        }
        if (mine.pillars >= MOST_PILLARS) {
            return refuse(FULL);
        }
        states.keep(mine);
        mine.add(cell, strength);
        return mine.pillars - 1;
    }

    public int weight(int cell, int v) {
        if (!isCell(cell) || !isWithin(v, MOST_WEIGHT)) {
            return refuse(BAD);
        }
        states.keep(mine);
        int before = mine.weights[cell];
        mine.weights[cell] = v;
        return before;
    }

    public int draw(int seed, int v) {
        if (!isWithin(seed, MOST_SEED) || !isWithin(v, MOST_WEIGHT)) {
            return refuse(BAD);
        }
        states.keep(mine);
        long x = seed;
        for (int cell = 0; cell < CELLS; cell++) {
            x = (x * 1103515245L + 12345L) % 2147483648L;
            mine.weights[cell] = (int) (x / 65536L % (v + 1));
        }
        return sum(mine.weights);
    }

    public int strength(int p, int v) {
        if (!mine.hasPillar(p) || !isStrength(v)) {
            return refuse(BAD);
        }
        states.keep(mine);
        int before = mine.strengths[p];
        mine.strengths[p] = v;
        return before;
    }

    public int wall(int way, int k, int on) {
        if (!isWithin(way, 1) || !isWithin(k, way == 0 ? ROWS - 2 : COLUMNS - 2) || !isWithin(on, 1)) {
            return refuse(BAD);
        }
        states.keep(mine);
        int number = k + (way == 0 ? FIRST_ROW_WALL : FIRST_COLUMN_WALL);
        int before = mine.walls[number];
        mine.walls[number] = on;
        return before;
    }

    public int mends() {
        states.keep(mine);
        lastRun.forget();
        int crushed = mine.pillars - mine.countStanding();
        for (int p = 0; p < mine.pillars; p++) {
            mine.stands[p] = 1;
        }
        return crushed;
    }

    public int anew() {
        states.keep(mine);
        lastRun.forget();
        int before = mine.pillars;
        mine.reset();
        return before;
    }

    public int of(int p, int what) {
        if (!mine.hasPillar(p) || !isWithin(what, 5)) {
            return refuse(BAD);
        }
        bearing.lay(mine);
        return tellPillar(p, what);
    }

    public int rests(int cell) {
        if (!isCell(cell)) {
            return refuse(BAD);
        }
        bearing.lay(mine);
        return bearing.under[cell];
    }

    public int all(int what) {
        if (!isWithin(what, 7)) {
            return refuse(BAD);
        }
        bearing.lay(mine);
        return tellMine(what);
    }

    public int beside(int p, int q) {
        if (p == q || !mine.isStanding(p) || !mine.isStanding(q)) {
            return refuse(BAD);
        }
        bearing.lay(mine);
        return bearing.meet(mine, p, q) ? 1 : 0;
    }

    // ---- runs

    public int runs() {
        states.keep(mine);
        return lastRun.crush(mine, bearing);
    }

    public int loses(int p) {
        if (!mine.hasPillar(p)) {
            return refuse(BAD);
        }
        if (!mine.isStanding(p)) {
            return refuse(NO);
        }
        states.keep(mine);
        mine.stands[p] = 0;
        return 1 + lastRun.crush(mine, bearing);
    }

    public int wave(int what, int k) {
        switch (what) {
            case 0:
                return lastRun.waves;
            case 1:
                return mine.hasPillar(k) ? lastRun.waveOf[k] : refuse(BAD);
            case 2:
                return k >= 1 ? lastRun.countInWave(k) : refuse(BAD);
            default:
                return refuse(BAD);
        }
    }

    // ---- what would be (all stays)

    public int would(int p, int what) {
        if (!mine.hasPillar(p) || !isWithin(what, 1)) {
            return refuse(BAD);
        }
        if (!mine.isStanding(p)) {
            return refuse(NO);
        }
        int crushed = trial.lose(mine, p);
        return what == 0 ? crushed : trial.bearing.countFallen();
    }

    public int worst(int what) {
        if (!isWithin(what, 1)) {
            return refuse(BAD);
        }
        int worst = NONE;
        int most = 0;
        for (int p = 0; p < mine.pillars; p++) {
            int crushed = mine.isStanding(p) ? trial.lose(mine, p) : 0;
            if (crushed > most) {
                most = crushed;
                worst = p;
            }
        }
        return what == 0 ? worst : most;
    }

    /**
     * A pillar that a run crushes anyway may lose all. One that is left bears most when the run ends, as no load
     * becomes less in it: what it has to spare then may be cut, and with one more it is crushed, too.
     */
    public int cut(int p) {
        if (!mine.hasPillar(p)) {
            return refuse(BAD);
        }
        if (!mine.isStanding(p)) {
            return refuse(NO);
        }
        trial.start(mine);
        trial.crush();
        return trial.mine.isStanding(p) ? mine.strengths[p] - trial.bearing.loads[p] : mine.strengths[p];
    }

    /** A run crushes none just when no load is too much at its start. */
    public int mending() {
        bearing.lay(mine);
        int least = 0;
        for (int p = 0; p < mine.pillars; p++) {
            if (mine.isStanding(p)) {
                least = Math.max(least, bearing.loads[p] - mine.strengths[p]);
            }
        }
        return least <= MOST_STRENGTH ? least : NONE;
    }

    public int bestWall(int what) {
        if (!isWithin(what, 1)) {
            return refuse(BAD);
        }
        int best = NONE;
        int most = NONE;
        for (int number = 0; number < WALL_NUMBERS; number++) {
            int left = isWall(number) && mine.walls[number] == 0 ? trial.build(mine, number) : NONE;
            if (left > most) {
                most = left;
                best = number;
            }
        }
        return what == 0 ? best : most;
    }

    public int bestCell(int s, int what) {
        if (!isStrength(s) || !isWithin(what, 1)) {
            return refuse(BAD);
        }
        if (mine.pillars >= MOST_PILLARS) {
            return refuse(NO);
        }
        int best = NONE;
        int most = NONE;
        for (int cell = 0; cell < CELLS; cell++) {
            int left = mine.hasPillarOn(cell) ? NONE : trial.support(mine, cell, s);
            if (left > most) {
                most = left;
                best = cell;
            }
        }
        return what == 0 ? best : most;
    }

    // ---- texts

    public int type(int c) {
        if (!isWithin(c, 127)) {
            return refuse(BAD);
        }
        if (text.length >= MOST_BYTES) {
            return refuse(FULL);
        }
        text.add(c);
        return text.length;
    }

    public int clear() {
        int before = text.length;
        text.length = 0;
        return before;
    }

    public int does() {
        trial.start(mine);
        trial.run.copy(lastRun);
        int fault = text.read(trial);
        if (fault != NONE) {
            return FAULT_AT_START - fault;
        }
        states.keep(mine);
        mine.copy(trial.mine);
        lastRun.copy(trial.run);
        return mine.countStanding();
    }

    public int back() {
        if (states.count == 0) {
            return refuse(NO);
        }
        states.giveBack(mine);
        lastRun.forget();
        return states.count;
    }

    public int told(int what) {
        return isWithin(what, 5) ? tellCount(what) : refuse(BAD);
    }

    public long digest() {
        bearing.lay(mine);
        long h = 2153L;
        for (int what = 0; what <= 5; what++) {
            h = 31L * h + tellCount(what);
        }
        for (int what = 0; what <= 7; what++) {
            h = 31L * h + tellMine(what);
        }
        for (int p = 0; p < mine.pillars; p++) {
            for (int what = 0; what <= 4; what++) {
                h = 31L * h + tellPillar(p, what);
            }
        }
        for (int cell = 0; cell < CELLS; cell++) {
            h = 31L * h + mine.weights[cell];
        }
        return h;
    }

    // ---- what the calls share

    private int refuse(int why) {
        if (why == BAD) {
            refusals[0]++;
        } else if (why == NO) {
            refusals[1]++;
        } else {
            refusals[2]++;
        }
        return why;
    }

    private int tellCount(int what) {
        switch (what) {
            case 0:
            case 1:
            case 2:
                return refusals[what];
            case 3:
                return text.length;
            case 4:
                return sum(mine.walls);
            default:
                return states.count;
        }
    }

    /** As the bearing that was laid last has it. */
    private int tellMine(int what) {
        switch (what) {
            case 0:
                return mine.pillars;
            case 1:
                return mine.countStanding();
            case 2:
                return bearing.countTooMuch(mine);
            case 3:
                return bearing.countFallen();
            case 4:
                return bearing.weighFallen(mine);
            case 5:
                return sum(mine.weights);
            case 6:
                return mine.countRooms();
            default:
                return bearing.countHeldRooms(mine);
        }
    }

    /** As the bearing that was laid last has it. */
    private int tellPillar(int p, int what) {
        switch (what) {
            case 0:
                return mine.cells[p];
            case 1:
                return mine.strengths[p];
            case 2:
                return mine.stands[p];
            case 3:
                return bearing.loads[p];
            case 4:
                return bearing.cellsOn[p];
            default:
                return mine.isStanding(p) ? mine.strengths[p] - bearing.loads[p] : SPARE_OF_CRUSHED;
        }
    }

    private static boolean isWithin(int v, int most) {
        return v >= 0 && v <= most;
    }

    private static boolean isCell(int cell) {
        return isWithin(cell, CELLS - 1);
    }

    private static boolean isStrength(int strength) {
        return isWithin(strength, MOST_STRENGTH);
    }

    private static boolean isWall(int number) {
        return number < ROWS - 1 || number >= FIRST_COLUMN_WALL;
    }

    private static int sum(int[] numbers) {
        int sum = 0;
        for (int i = 0; i < numbers.length; i++) {
            sum += numbers[i];
        }
        return sum;
    }

    /** The roof's weights, the pillars and the walls: all that a state is. */
    private static final class Mine {
        final int[] weights = new int[CELLS];
        final int[] cells = new int[MOST_PILLARS];
        final int[] strengths = new int[MOST_PILLARS];
        final int[] stands = new int[MOST_PILLARS];
        final int[] walls = new int[WALL_NUMBERS];
        int pillars;

        Mine() {
            reset();
        }

        void reset() {
            Arrays.fill(weights, 1);
            Arrays.fill(walls, 0);
            pillars = 0;
        }

        void copy(Mine other) {
            System.arraycopy(other.weights, 0, weights, 0, CELLS);
            System.arraycopy(other.cells, 0, cells, 0, MOST_PILLARS);
            System.arraycopy(other.strengths, 0, strengths, 0, MOST_PILLARS);
            System.arraycopy(other.stands, 0, stands, 0, MOST_PILLARS);
            System.arraycopy(other.walls, 0, walls, 0, WALL_NUMBERS);
            pillars = other.pillars;
        }

        void add(int cell, int strength) {
            if (pillars < MOST_PILLARS) {
                cells[pillars] = cell;
                strengths[pillars] = strength;
                stands[pillars] = 1;
                pillars++;
            }
        }

        boolean hasPillar(int p) {
            return p >= 0 && p < pillars;
        }

        boolean isStanding(int p) {
            return hasPillar(p) && stands[p] == 1;
        }

        boolean hasPillarOn(int cell) {
            for (int p = 0; p < pillars; p++) {
                if (cells[p] == cell) {
                    return true;
                }
            }
            return false;
        }

        int countStanding() {
            int count = 0;
            for (int p = 0; p < pillars; p++) {
                count += stands[p];
            }
            return count;
        }

        /** A room is counted where it starts: at its cell in the first row and column. */
        boolean startsRoom(int cell) {
            return !isOpenBelow(cell / COLUMNS - 1) && !isOpenRight(cell % COLUMNS - 1);
        }

        int countRooms() {
            int count = 0;
            for (int cell = 0; cell < CELLS; cell++) {
                if (startsRoom(cell)) {
                    count++;
                }
            }
            return count;
        }

        boolean isOpenBelow(int row) {
            return row >= 0 && row < ROWS - 1 && walls[row] == 0;
        }

        boolean isOpenRight(int column) {
            return column >= 0 && column < COLUMNS - 1 && walls[FIRST_COLUMN_WALL + column] == 0;
        }

        /** The first row or column of the room, by where the walls behind rows or behind columns start. */
        int firstOf(int walled, int k) {
            int first = k;
            while (first > 0 && walls[walled + first - 1] == 0) {
                first--;
            }
            return first;
        }

        int lastOf(int walled, int k, int most) {
            int last = k;
            while (last < most && walls[walled + last] == 0) {
                last++;
            }
            return last;
        }
    }

    /** On what each cell of a mine rests, and so what each pillar bears, as it was when it was laid last. */
    private static final class Bearing {
        final int[] under = new int[CELLS];
        final int[] apart = new int[CELLS];
        final int[] loads = new int[MOST_PILLARS];
        final int[] cellsOn = new int[MOST_PILLARS];

        void lay(Mine mine) {
            Arrays.fill(under, NONE);
            Arrays.fill(apart, FAR);
            for (int p = 0; p < mine.pillars; p++) {
                if (mine.stands[p] == 1) {
                    claim(mine, p);
                }
            }
            weigh(mine);
        }

        /** Pillars claim in their order, so that of like ones the least keeps a cell. */
        private void claim(Mine mine, int p) {
            int row = mine.cells[p] / COLUMNS;
            int column = mine.cells[p] % COLUMNS;
            int lastRow = mine.lastOf(FIRST_ROW_WALL, row, ROWS - 1);
            int firstColumn = mine.firstOf(FIRST_COLUMN_WALL, column);
            int lastColumn = mine.lastOf(FIRST_COLUMN_WALL, column, COLUMNS - 1);
            for (int r = mine.firstOf(FIRST_ROW_WALL, row); r <= lastRow; r++) {
                int rowsApart = Math.abs(r - row);
                for (int c = firstColumn; c <= lastColumn; c++) {
                    int cell = COLUMNS * r + c;
                    int way = rowsApart + Math.abs(c - column);
                    if (way < apart[cell]) {
                        apart[cell] = way;
                        under[cell] = p;
                    }
                }
            }
        }

        private void weigh(Mine mine) {
            Arrays.fill(loads, 0);
            Arrays.fill(cellsOn, 0);
            for (int cell = 0; cell < CELLS; cell++) {
                int p = under[cell];
                if (p != NONE) {
                    loads[p] += mine.weights[cell];
                    cellsOn[p]++;
                }
            }
        }

        boolean isTooMuch(Mine mine, int p) {
            return mine.stands[p] == 1 && loads[p] > mine.strengths[p];
        }

        int countTooMuch(Mine mine) {
            int count = 0;
            for (int p = 0; p < mine.pillars; p++) {
                if (isTooMuch(mine, p)) {
                    count++;
                }
            }
            return count;
        }

        int countFallen() {
            int count = 0;
            for (int cell = 0; cell < CELLS; cell++) {
                if (under[cell] == NONE) {
                    count++;
                }
            }
            return count;
        }

        int weighFallen(Mine mine) {
            int weight = 0;
            for (int cell = 0; cell < CELLS; cell++) {
                if (under[cell] == NONE) {
                    weight += mine.weights[cell];
                }
            }
            return weight;
        }

        /** All cells of a room in which a pillar stands rest on one, its first cell too. */
        int countHeldRooms(Mine mine) {
            int count = 0;
            for (int cell = 0; cell < CELLS; cell++) {
                if (under[cell] != NONE && mine.startsRoom(cell)) {
                    count++;
                }
            }
            return count;
        }

        boolean meet(Mine mine, int p, int q) {
            for (int cell = 0; cell < CELLS; cell++) {
                boolean right = mine.isOpenRight(cell % COLUMNS) && arePair(cell, cell + 1, p, q);
                boolean below = mine.isOpenBelow(cell / COLUMNS) && arePair(cell, cell + COLUMNS, p, q);
                if (right || below) {
                    return true;
                }
            }
            return false;
        }

        private boolean arePair(int cell, int next, int p, int q) {
            return under[cell] == p && under[next] == q || under[cell] == q && under[next] == p;
        }
    }

    /** A run, as it went: the wave in which each pillar was crushed. */
    private static final class Run {
        final int[] waveOf = new int[MOST_PILLARS];
        int waves;

        Run() {
            forget();
        }

        void forget() {
            Arrays.fill(waveOf, NONE);
            waves = 0;
        }

        void copy(Run other) {
            System.arraycopy(other.waveOf, 0, waveOf, 0, MOST_PILLARS);
            waves = other.waves;
        }

        /** One round more than there are pillars: the last round crushes none, so that the bearing is the end's. */
        int crush(Mine mine, Bearing bearing) {
            forget();
            int crushed = 0;
            for (int wave = 1; wave <= MOST_PILLARS + 1; wave++) {
                bearing.lay(mine);
                int more = crushWave(mine, bearing, wave);
                if (more == 0) {
                    break;
                }
                crushed += more;
                waves = wave;
            }
            return crushed;
        }

        private int crushWave(Mine mine, Bearing bearing, int wave) {
            int crushed = 0;
            for (int p = 0; p < mine.pillars; p++) {
                if (bearing.isTooMuch(mine, p)) {
                    mine.stands[p] = 0;
                    waveOf[p] = wave;
                    crushed++;
                }
            }
            return crushed;
        }

        int countInWave(int wave) {
            int count = 0;
            for (int p = 0; p < MOST_PILLARS; p++) {
                if (waveOf[p] == wave) {
                    count++;
                }
            }
            return count;
        }
    }

    /** The mines to go back to, in a ring: a seventh takes the oldest one's place. */
    private static final class States {
        private final Mine[] ring = new Mine[MOST_STATES];
        private int next;
        int count;

        States() {
            for (int i = 0; i < MOST_STATES; i++) {
                ring[i] = new Mine();
            }
        }

        void keep(Mine mine) {
            ring[next].copy(mine);
            next = (next + 1) % MOST_STATES;
            count = Math.min(count + 1, MOST_STATES);
        }

        void giveBack(Mine mine) {
            if (count > 0) {
                next = (next + MOST_STATES - 1) % MOST_STATES;
                count--;
                mine.copy(ring[next]);
            }
        }
    }

    /** A second mine on which it is tried out what would be, so that the mine and its last run stay. */
    private static final class Trial {
        final Mine mine = new Mine();
        final Bearing bearing = new Bearing();
        final Run run = new Run();

        void start(Mine from) {
            mine.copy(from);
        }

        int crush() {
            return run.crush(mine, bearing);
        }

        /** How many the loss of a pillar crushes. */
        int lose(Mine from, int p) {
            start(from);
            mine.stands[p] = 0;
            return 1 + crush();
        }

        /** How many are left with a wall more. */
        int build(Mine from, int wall) {
            start(from);
            mine.walls[wall] = 1;
            crush();
            return mine.countStanding();
        }

        /** How many are left with a pillar more. */
        int support(Mine from, int cell, int strength) {
            start(from);
            mine.add(cell, strength);
            crush();
            return mine.countStanding();
        }
    }

    /** THE TEXT, and its orders as they are read. */
    private static final class Text {
        final int[] bytes = new int[MOST_BYTES];
        int length;
        private int at;
        private int fault;
        private int numberAt;

        void add(int c) {
            if (length < MOST_BYTES) {
                bytes[length] = c;
                length++;
            }
        }

        /**
         * The first fault's place, or NONE. Each order is done on the trial as soon as it is read, as one can be at
         * fault by what those before it did.
         */
        int read(Trial trial) {
            at = 0;
            fault = NONE;
            skipBlanks();
            if (at >= length) {
                fail(length);
            }
            for (int orders = 0; orders < MOST_BYTES && at < length && fault == NONE; orders++) {
                readOrder(trial);
                skipBlanks();
            }
            return fault;
        }

        private void readOrder(Trial trial) {
            int start = at;
            at++;
            switch (bytes[start]) {
                case 'p':
                    readPillar(trial.mine, start);
                    break;
                case 'w':
                    readWeight(trial.mine);
                    break;
                case '-':
                    readWall(trial.mine, FIRST_ROW_WALL, ROWS - 2);
                    break;
                case '/':
                    readWall(trial.mine, FIRST_COLUMN_WALL, COLUMNS - 2);
                    break;
                case 'x':
                    readCrushed(trial.mine);
                    break;
                case '!':
                    readEnd();
                    if (fault == NONE) {
                        trial.crush();
                    }
                    break;
                default:
                    fail(start);
                    break;
            }
        }

        private void readPillar(Mine mine, int start) {
            if (mine.pillars >= MOST_PILLARS) {
                fail(start);
            }
            int cell = readCell();
            int strength = readNumber(MOST_STRENGTH);
            readEnd();
            if (mine.hasPillarOn(cell)) {
                fail(start);
            }
            if (fault == NONE) {
                mine.add(cell, strength);
            }
        }

        private void readWeight(Mine mine) {
            int cell = readCell();
            int weight = readNumber(MOST_WEIGHT);
            readEnd();
            if (fault == NONE) {
                mine.weights[cell] = weight;
            }
        }

        private void readWall(Mine mine, int first, int most) {
            int wall = first + readNumber(most);
            readEnd();
            if (fault == NONE) {
                mine.walls[wall] = 1;
            }
        }

        private void readCrushed(Mine mine) {
            int p = readNumber(MOST_PILLARS - 1);
            if (!mine.isStanding(p)) {
                fail(numberAt);
            }
            readEnd();
            if (fault == NONE) {
                mine.stands[p] = 0;
            }
        }

        private int readCell() {
            int row = readNumber(ROWS - 1);
            int column = readNumber(COLUMNS - 1);
            return COLUMNS * row + column;
        }

        /** From 0 to most; behind a fault 0, so that what is made of it never leaves the mine. */
        private int readNumber(int most) {
            skipBlanks();
            numberAt = at;
            int value = 0;
            while (at < length && isFigure(bytes[at])) {
                value = 10 * value + bytes[at] - '0';
                at++;
            }
            int figures = at - numberAt;
            if (figures < 1 || figures > MOST_FIGURES || value > most) {
                fail(numberAt);
            }
            return fault == NONE ? value : 0;
        }

        private void readEnd() {
            skipBlanks();
            if (at >= length || bytes[at] != ';') {
                fail(at);
            }
            at++;
        }

        private void skipBlanks() {
            while (at < length && bytes[at] == ' ') {
                at++;
            }
        }

        /** What is read behind a fault tells no other: only the first one counts. */
        private void fail(int place) {
            if (fault == NONE) {
                fault = place;
            }
        }

        private static boolean isFigure(int c) {
            return c >= '0' && c <= '9';
        }
    }
}
