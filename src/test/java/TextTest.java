/** THE TEXT and its FAULT, as the terms tell them, and promises 22 to 24, sentence by sentence. */
public final class TextTest extends SentenceTests {
    /** 12 pillars in as few bytes as can be, so that more orders have room behind them. */
    private static final String TWELVE = "p0 0 9;p0 1 9;p0 2 9;p0 3 9;p0 4 9;p0 5 9;p0 6 9;p0 7 9;p0 8 9;p0 9 9;p1 0 9;p1 1 9;";

    // ---- the orders

    @Sentence(promise = 0, says = "THE TEXT (120 bytes at most)")
    void textOf120Bytes() {
        PillarRuns x = new PillarRuns();
        type(x, "!;".repeat(60));
        is("bytes", x.told(3), 120);
        is("all are read", x.does(), 0);
        type(x, "!;".repeat(59) + " !");
        is("the last one is read", x.does(), -130);
        type(x, " ".repeat(112) + "p7 11 9;");
        is("an order at the end", x.does(), 1);
        type(x, "!;".repeat(60) + "?");
        is("no more bytes", x.told(3), 120);
        is("a byte too many is not there", x.does(), 0);
    }

    @Sentence(promise = 0, says = "tells a mine, ORDERS, each ended by ;")
    void ordersAreEnded() {
        stands("!;", 0);
        stands("p0 0 9;p0 1 9;", 2);
        fault("p0 0 9", 6);
        fault("p0 0 9p0 1 9;", 6);
        fault("p0 0 9 p0 1 9;", 7);
        fault("p0 0 9;p0 1 9", 13);
        fault("w0 0 9-0;", 6);
        fault("-0/0;", 2);
        fault("/0-0;", 2);
        fault("p0 0 9;x0!;", 9);
        fault("!!;", 1);
        fault("!:", 1);
        fault(";", 0);
        fault("!;;", 2);
    }

    @Sentence(promise = 0, says = "p r c s (a PILLAR at row r, column c, of STRENGTH s)")
    void orderOfAPillar() {
        PillarRuns x = new PillarRuns();
        is("most of each", does(x, "p 7 11 999;"), 1);
        is("cell", x.of(0, 0), 95);
        is("strength", x.of(0, 1), 999);
        is("least of each", does(x, "p 0 0 0;"), 2);
        is("cell", x.of(1, 0), 0);
        is("strength", x.of(1, 1), 0);
        is("it stands, with no run", x.of(1, 2), 1);
        fault("p 8 0 0;", 2);
        fault("p 0 12 0;", 4);
        fault("p 0 0 1000;", 6);
        fault("p;", 1);
        fault("p 0;", 3);
        fault("p 0 0;", 5);
        fault("p 0 0 0 0;", 8);
    }

    @Sentence(promise = 0, says = "w r c k (WEIGHT of a CELL)")
    void orderOfAWeight() {
        PillarRuns x = new PillarRuns();
        is("most", does(x, "w 7 11 9;"), 0);
        is("least", does(x, "w 0 0 0;"), 0);
        is("last cell", x.weight(95, 1), 9);
        is("first cell", x.weight(0, 1), 0);
        is("again", does(x, "w 6 5 3;w 6 5 4;"), 0);
        is("the last one counts", x.weight(77, 1), 4);
        fault("w 8 0 0;", 2);
        fault("w 0 12 0;", 4);
        fault("w 0 0 10;", 6);
        fault("w;", 1);
        fault("w 0;", 3);
        fault("w 0 0;", 5);
        fault("w 0 0 0 0;", 8);
    }

    @Sentence(promise = 0, says = "- r (a WALL behind row r)")
    void orderOfARowsWall() {
        PillarRuns x = mine("p 7 0 99;p 0 0 99;");
        does(x, "- 6;");
        is("row 6", x.rests(72), 1);
        is("row 7", x.rests(84), 0);
        does(x, "- 0;");
        is("row 0", x.rests(0), 1);
        is("row 1", x.rests(12), NONE);
        is("walls", x.told(4), 2);
        does(x, "- 0;");
        is("one that is there", x.told(4), 2);
        fault("- 7;", 2);
        fault("-;", 1);
        fault("- 0 0;", 4);
    }

    @Sentence(promise = 0, says = "/ c (behind column c)")
    void orderOfAColumnsWall() {
        PillarRuns x = mine("p 0 11 99;p 0 0 99;");
        does(x, "/ 10;");
        is("column 10", x.rests(10), 1);
        is("column 11", x.rests(11), 0);
        does(x, "/ 0;");
        is("column 0", x.rests(0), 1);
        is("column 1", x.rests(1), NONE);
        is("walls", x.told(4), 2);
        does(x, "/ 0;");
        is("one that is there", x.told(4), 2);
        fault("/ 11;", 2);
        fault("/;", 1);
        fault("/ 0 0;", 4);
    }

    @Sentence(promise = 0, says = "x p (PILLAR p is crushed)")
    void orderOfACrushedOne() {
        PillarRuns x = mine("p 0 0 50;p 7 11 60;");
        is("the other stands", does(x, "x 0;"), 1);
        is("crushed", x.of(0, 2), 0);
        is("no run comes by it", x.all(2), 1);
        is("one of the text itself, the twelfth", does(new PillarRuns(), TWELVE + "x11;"), 11);
        fault(mine("p 0 0 50;"), "x;", 1);
        fault(mine("p 0 0 50;"), "x 0 0;", 4);
    }

    @Sentence(promise = 0, says = "! (a RUN)")
    void orderOfARun() {
        PillarRuns x = new PillarRuns();
        is("in its place", does(x, "p 0 0 51;p 7 11 96;!;p 3 3 9;"), 2);
        is("the first is crushed", x.of(0, 2), 0);
        is("the one behind the run is not", x.of(2, 2), 1);
        is("a run of more waves", does(x, "x1;p 4 4 99;! ;"), 1);
        is("only the strong one", x.of(3, 2), 1);
        stands("!;!;! ; !;", 0);
        fault("!5;", 1);
    }

    @Sentence(promise = 0, says = "Numbers of 1 to 3 figures")
    void figures() {
        stands("p7 1 9;", 1);
        stands("p07 01 09;", 1);
        stands("p007 011 999;", 1);
        stands("w000 000 000;-006;/010;", 0);
        fault("p 0000 0 0;", 2);
        fault("p 0 0 0999;", 6);
        fault("w 0 0 0009;", 6);
        fault("-0000;", 1);
        fault("/0010;", 1);
        fault("p -1 0 0;", 2);
        fault("p +1 0 0;", 2);
        fault("p 0 1.5 0;", 5);
    }

    @Sentence(promise = 0, says = "blanks (32) between, needed only between figures")
    void blanks() {
        stands("p0 0 0;", 1);
        stands("p 0 0 0 ;", 1);
        stands("  p  0   0    0  ;  ", 1);
        stands("! ; ! ;", 0);
        stands("-0;/0;w0 0 0;", 0);
        stands("  p7 11 0  ;  x  0  ;  -  6  ;  ", 0);
        fault("p000;", 4);
        fault("p0 00;", 5);
        fault("p\t0 0 0;", 1);
        fault("w0 0\n0;", 4);
        fault("p0,0,0;", 2);
        fault("p0 0 0;\r\n", 7);
        fault("p0 0 1 0;", 7);
    }

    // ---- the fault

    @Sentence(promise = 0, says = "FAULT: the place of the first byte that can not stand there")
    void firstByteThatCanNotStand() {
        fault("a", 0);
        fault("P 0 0 0;", 0);
        fault("5", 0);
        fault("!;5;", 2);
        fault("p 0 0 0p", 7);
        fault("p 0 0 0:", 7);
        fault("p 0 / 0;", 4);
        fault("p 0,0 0;", 3);
        fault("xx", 1);
        fault("!;?!?", 2);
        fault("p 8 12 1000;", 2);
        fault("p 0 0 9;z;x 5;", 8);
        PillarRuns x = new PillarRuns();
        for (int c = 0; c <= 127; c++) {
            boolean starts = "pw-/x!".indexOf(c) >= 0 || c == ' ';
            is("byte " + c, does(x, String.valueOf((char) c)), starts ? -11 : -10);
        }
    }

    @Sentence(promise = 0, says = "of a number not as told, of four figures or more: its first byte")
    void numbersNotAsTold() {
        fault("p 008 0 0;", 2);
        fault("p   8 0 0;", 4);
        fault("p 0 99 0;", 4);
        fault("p 0 0000 0;", 4);
        fault("p 0 0 0000;", 6);
        fault("w 0 0 10;", 6);
        fault("w 0 0 999;", 6);
        fault("- 999;", 2);
        fault("p 8", 2);
        fault("w 0 0 10", 6);
        fault("w 0 0 10!", 6);
        fault("p 0 0 12345", 6);
        fault("p 4294967296 0 0;", 2);
        fault("p 0 4294967297 0;", 4);
        fault("p 0 0 18446744073709551616;", 6);
        fault("p" + "9".repeat(119), 1);
        fault("9".repeat(120), 0);
    }

    @Sentence(promise = 0, says = "a 13th p: the p")
    void thirteenthPillar() {
        fault(TWELVE + "p1 2 9;", 84);
        fault(TWELVE + " p", 85);
        fault(TWELVE + "p?", 84);
        fault(TWELVE + "x0;p1 2 9;", 87);
        stands(TWELVE, 12);
        PillarRuns x = mine(FIRST_ROW);
        fault(x, "p", 0);
        fault(x, "!; p 7 7 7;", 3);
        fault(x, "p 0 0 0;", 0);
        x.back();
        is("the mine before it has room", does(x, "p 7 7 7;"), 1);
    }

    @Sentence(promise = 0, says = "p on a CELL that has one, as soon as all of it with its ; is read: the p")
    void pillarOnAPillar() {
        fault("p 1 1 5;p 1 1 6;", 8);
        fault("p 1 1 5;  p 01 001 6 ;", 10);
        fault("p 1 1 5;x0; p 1 1 6 ;", 12);
        fault("p 1 1 5;p 1 1 6", 15);
        fault("p 1 1 5;p 1 1 6!", 15);
        fault("p 1 1 5;p 1 1 1000;", 14);
        fault("p 1 1 5;p 1 1;", 13);
        fault("p 1 1 5;p 1 1 6;?", 8);
        PillarRuns x = mine("p 7 11 3;");
        fault(x, "!;p 7 11 1;", 2);
        x.runs();
        fault(x, "p 7 11 1;", 0);
        is("its neighbour is free", does(x, "p 7 10 1;"), 1);
    }

    @Sentence(promise = 0, says = "x of one that is crushed or is not there: its number")
    void crushedOrNotThere() {
        fault("x0;", 1);
        fault("x 0", 2);
        fault("p 0 0 1;x 1;", 10);
        fault("p 0 0 1;x1!", 9);
        fault("p 0 0 1;x0;x  0;", 14);
        fault("p 0 0 1;x0;x00", 12);
        fault("p 0 0 1;!;x0;", 11);
        fault("x 12;", 2);
        fault("x 999;", 2);
        fault("x 1000;", 2);
        fault(mine(FIRST_ROW), "x 12;", 2);
        fault(mine("p 0 0 0;x 0;"), "x 0;", 2);
        stands("p 0 0 1;x0;!;", 0);
    }

    @Sentence(promise = 0, says = "the TEXT's length, if it ends too early (an empty one, too)")
    void endsTooEarly() {
        fault("", 0);
        fault(" ", 1);
        fault(" ".repeat(120), 120);
        fault("p", 1);
        fault("p ", 2);
        fault("p 0", 3);
        fault("p 0 ", 4);
        fault("p 0 0", 5);
        fault("p 0 0 5", 7);
        fault("p 0 0 5  ", 9);
        fault("w 0 0 5", 7);
        fault("-", 1);
        fault("- 5", 3);
        fault("/", 1);
        fault("/ 5", 3);
        fault("x", 1);
        fault("!", 1);
        fault("!;!", 3);
        fault("p 0 0 5;x 0", 11);
    }

    @Sentence(promise = 0, says = "If there is one, nothing is done.")
    void nothingIsDone() {
        PillarRuns x = mine("p 0 0 9;p 7 11 999;");
        fault(x, "p 3 3 3;w 0 0 9;- 3;/ 3;x 1;!;?", 30);
        is("no pillar came", x.all(0), 2);
        is("none was crushed", x.all(1), 2);
        is("no wall came", x.told(4), 0);
        is("no weight was changed", x.weight(0, 1), 1);
        is("no run was", x.wave(0, 0), 0);
        is("the text stays", x.told(3), 31);
        x.runs();
        fault(x, "p 3 3 0;!;!;!", 13);
        is("the last run is the one before", x.wave(1, 0), 1);
    }

    @Sentence(promise = 0, says = "By a FAULT nothing counts.")
    void faultsDoNotCount() {
        PillarRuns x = new PillarRuns();
        String[] faults = {"", "?", "p", "p 8 0 0;", "x 0;", "p 0 0 0;p 0 0 0;", "p 0 0 1000;"};
        for (String text : faults) is(text, does(x, text) <= -10 ? 1 : 0, 1);
        for (int what = 0; what <= 2; what++) is("how often refused, " + what, x.told(what), 0);
        is("states", x.told(5), 0);
        is("none to go back to", x.back(), NO);
    }

    // ---- 22 type

    @Sentence(promise = 22, says = "A byte (0 .. 127) comes behind THE TEXT: how many it has.")
    void typeComesBehind() {
        PillarRuns x = new PillarRuns();
        is("least", x.type(0), 1);
        is("most", x.type(127), 2);
        x.clear();
        for (int i = 1; i <= 120; i++) is("byte " + i, x.type(i), i);
        is("no states", x.told(5), 0);
        type(x, "!;");
        is("behind what is there", x.type('x'), 3);
        is("so it is read", x.does(), -13);
    }

    @Sentence(promise = 22, says = "BAD")
    void typeBad() {
        PillarRuns x = new PillarRuns();
        int[] bad = {-1, 128, 255, LEAST, MOST};
        for (int b : bad) refused("" + b, x, BAD, () -> x.type(b));
        type(x, " ".repeat(120));
        refused("bad before full", x, BAD, () -> x.type(128));
    }

    @Sentence(promise = 22, says = "FULL: 120")
    void typeFull() {
        PillarRuns x = new PillarRuns();
        type(x, " ".repeat(119));
        is("the 120th", x.type(32), 120);
        refused("a 121st", x, FULL, () -> x.type(32));
        refused("least", x, FULL, () -> x.type(0));
        refused("most", x, FULL, () -> x.type(127));
        x.clear();
        is("empty again", x.type(32), 1);
    }

    // ---- 23 clear

    @Sentence(promise = 23, says = "THE TEXT is empty: how many it had.")
    void clearEmpties() {
        PillarRuns x = new PillarRuns();
        stays("had none", x, x::clear, 0);
        type(x, "p 0 0 1;");
        is("had 8", x.clear(), 8);
        is("is empty", x.told(3), 0);
        is("nothing to do", x.does(), -10);
        is("had none", x.clear(), 0);
        type(x, " ".repeat(120));
        is("had 120", x.clear(), 120);
        is("no states", x.told(5), 0);
        is("first byte", x.type('p'), 1);
    }

    // ---- 24 does

    @Sentence(promise = 24, says = "ORDERS are done: how many PILLARS stand then.")
    void doesOrders() {
        PillarRuns x = new PillarRuns();
        is("one", does(x, "p 7 11 999;"), 1);
        is("the text stays", x.told(3), 11);
        is("those of the mine before it stand, too", does(x, "p 0 0 9;p 0 1 9;x 1;"), 2);
        is("a run", does(x, "!;"), 1);
        is("none", does(x, "x 0;"), 0);
        is("all twelve", does(new PillarRuns(), FIRST_ROW), 12);
        is("in their order", does(new PillarRuns(), "p 0 0 1;x0;!;"), 0);
        PillarRuns again = mine("- 0;");
        type(again, "!;w 0 0 5;");
        is("a text can be done again", again.does() + again.does(), 0);
    }

    @Sentence(promise = 24, says = "S.")
    void doesLeavesState() {
        PillarRuns x = new PillarRuns();
        type(x, "p 0 0 0;p 1 1 999;w 3 3 9;- 2;/ 7;x 1;!;");
        leavesState("one for all orders", x, x::does, 0);
        type(x, "!;");
        leavesState("one that changes nothing", x, x::does, 0);
        is("weights are back", x.weight(39, 1), 1);
        type(x, "?");
        int states = x.told(5);
        x.does();
        is("none by a fault", x.told(5), states);
    }

    @Sentence(promise = 24, says = "-10 less the FAULT.")
    void doesAnswersFault() {
        fault("?", 0);
        fault("!?", 1);
        fault("!;".repeat(59) + ";", 118);
        fault("!;".repeat(59) + "!?", 119);
        fault("!;".repeat(59) + "! ", 120);
    }

    public static void main(String[] args) throws Exception {
        new TextTest().runAll();
    }
}
