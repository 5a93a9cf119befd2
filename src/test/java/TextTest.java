/** Promise 24, does: the orders of THE TEXT, and its faults by their places. */
public final class TextTest {
    private final Due due = new Due();

    private static void type(PillarRuns x, String text) {
        x.clear();
        for (int i = 0; i < text.length(); i++) {
            x.type(text.charAt(i));
        }
    }

    private static int does(PillarRuns x, String text) {
        type(x, text);
        return x.does();
    }

    private void stands(String text, int standing) {
        due.is("\"" + text + "\" stands", does(new PillarRuns(), text), standing);
    }

    /** A fault changes nothing: no state is left and no refusal is counted. */
    private void fault(String text, int place) {
        PillarRuns x = new PillarRuns();
        type(x, text);
        long before = x.digest();
        due.is("\"" + text + "\"", x.does(), -10 - place);
        due.is("\"" + text + "\" changes nothing", x.digest(), before);
    }

    private void ordersAreDone() {
        PillarRuns x = new PillarRuns();
        due.is("p", does(x, "p 7 11 999;"), 1);
        due.is("p: cell", x.of(0, 0), 95);
        due.is("p: strength", x.of(0, 1), 999);
        due.is("the text stays", x.told(3), 11);
        due.is("a state", x.told(5), 1);
        due.is("w", does(x, "w 6 5 9;"), 1);
        due.is("w: weight", x.weight(77, 9), 9);
        due.is("-", does(x, "- 0;- 6;"), 1);
        due.is("-: walls", x.told(4), 2);
        due.is("-: rooms", x.all(6), 3);
        due.is("-: row 6", x.rests(83), -1);
        due.is("-: row 7", x.rests(84), 0);
        due.is("/", does(x, "/ 0;/ 10;"), 1);
        due.is("/: walls", x.told(4), 4);
        due.is("/: column 10", x.rests(94), -1);
        due.is("/: column 11", x.rests(95), 0);
        due.is("a wall that is there", does(x, "/ 0;"), 1);
        due.is("a wall that is there: walls", x.told(4), 4);
        due.is("x", does(x, "x 0;"), 0);
        due.is("x: crushed", x.of(0, 2), 0);
        due.is("six states", x.told(5), 6);
        due.is("back", x.back(), 5);
        due.is("back: stands", x.of(0, 2), 1);
    }

    private void ordersAreDoneInTheirOrder() {
        PillarRuns x = new PillarRuns();
        due.is("a run", does(x, "p 0 0 51;p 7 11 96;!;p 3 3 9;"), 2);
        due.is("a run: the first", x.of(0, 2), 0);
        due.is("a run: the last", x.of(2, 2), 1);
        due.is("a run: waves", x.wave(0, 0), 1);
        due.is("one state for all", x.told(5), 1);
        due.is("x, no run", does(x, "x1;"), 1);
        due.is("x, no run: the rest bear too much", x.all(2), 1);
        due.is("a run then", does(x, "! ;"), 0);
        due.is("behind the run the crushed one can not be crushed", does(new PillarRuns(), "p 0 0 1;!;x0;"), -21);
        due.is("before it, it can", does(new PillarRuns(), "p 0 0 1;x0;!;"), 0);
    }

    private void blanks() {
        stands("p0 0 0;", 1);
        stands("p 0 0 0 ;", 1);
        stands("  p  0   0    0  ;  ", 1);
        stands("p007 011 999;", 1);
        stands("p7 11 0;p7 10 000;!;", 0);
        stands("-0;/0;w0 0 0;", 0);
        stands("!;", 0);
        stands("!;!;! ; !;", 0);
        fault("p000;", 4);
        fault("p0 00;", 5);
        fault("p\t0 0 0;", 1);
        fault("w0 0\n0;", 4);
    }

    private void endsTooEarly() {
        fault("", 0);
        fault(" ", 1);
        fault("   ", 3);
        fault("p", 1);
        fault("p ", 2);
        fault("p 0", 3);
        fault("p 0 ", 4);
        fault("p 0 0", 5);
        fault("p 0 0 5", 7);
        fault("p 0 0 5  ", 9);
        fault("w 0 0 5", 7);
        fault("-", 1);
        fault("- 5", 3);
        fault("/ 5", 3);
        fault("x", 1);
        fault("!", 1);
        fault("!;!", 3);
        fault("p 0 0 5;x 0", 11);
    }

    private void bytesThatCanNotStand() {
        fault(";", 0);
        fault("!;;", 2);
        fault("a", 0);
        fault("P 0 0 0;", 0);
        fault("5", 0);
        fault("!;5;", 2);
        fault("!5;", 1);
        fault("!!;", 1);
        fault("p;", 1);
        fault("p 0;", 3);
        fault("p 0 0;", 5);
        fault("p 0 0 0 0;", 8);
        fault("p 0 0 0p", 7);
        fault("p -1 0 0;", 2);
        fault("p 0,0 0;", 3);
        fault("- 0 0;", 4);
        fault("/ 0 0;", 4);
        fault("-;", 1);
        fault("w 0 0 0 0;", 8);
        fault("x;", 1);
        fault("xx", 1);
        fault("!:", 1);
        fault("p 0 0 0:", 7);
        fault("p 0 / 0;", 4);
    }

    private void numbersNotAsTold() {
        fault("p 8 0 0;", 2);
        fault("p 008 0 0;", 2);
        fault("p 0 12 0;", 4);
        fault("p 0 0 1000;", 6);
        fault("p 0 0 0000;", 6);
        fault("p 0000 0 0;", 2);
        fault("p 0 0000 0;", 4);
        fault("p 99999999999999999999 0 0;", 2);
        fault("p 4294967296 0 0;", 2);
        fault("p 0 0 4294967296;", 6);
        fault("w 8 0 0;", 2);
        fault("w 0 12 0;", 4);
        fault("w 0 0 10;", 6);
        fault("w 0 0 0009;", 6);
        fault("- 7;", 2);
        fault("-0000;", 1);
        fault("/ 11;", 2);
        fault("/0010;", 1);
        fault("x 12;", 2);
        fault("x 999;", 2);
        fault("p 8", 2);
        fault("w 0 0 10", 6);
        fault("p 9 99 9999", 2);
        stands("w 7 11 9;- 6;/ 10;p 7 11 999;", 1);
    }

    private void pillarsThatCanNotBe() {
        fault("p 1 1 5;p 1 1 6;", 8);
        fault("p 1 1 5;x0; p 1 1 6 ;", 12);
        fault("p 1 1 5;p 1 1 6", 15);
        fault("p 1 1 5;p 1 1 6!", 15);
        fault("p 1 1 5;p 1 1 1000;", 14);
        fault("p 1 1 5;p 1 1;", 13);
        PillarRuns x = new PillarRuns();
        x.pillar(95, 3);
        due.is("on one that is there", does(x, "!;p 7 11 1;"), -12);
        due.is("nothing was done", x.of(0, 2), 1);
        x.runs();
        due.is("on a crushed one", does(x, "p 7 11 1;"), -10);
        fault("p0 0 9;p0 1 9;p0 2 9;p0 3 9;p0 4 9;p0 5 9;p0 6 9;p0 7 9;p0 8 9;p0 9 9;p1 0 9;p1 1 9;p1 2 9;", 84);
        fault("p0 0 9;p0 1 9;p0 2 9;p0 3 9;p0 4 9;p0 5 9;p0 6 9;p0 7 9;p0 8 9;p0 9 9;p1 0 9;p1 1 9; p", 85);
        stands("p0 0 9;p0 1 9;p0 2 9;p0 3 9;p0 4 9;p0 5 9;p0 6 9;p0 7 9;p0 8 9;p0 9 9;p1 0 9;p1 1 9;x11;", 11);
        for (int cell = 0; cell < 11; cell++) {
            x.pillar(cell, 9);
        }
        due.is("a 13th", does(x, " p"), -11);
        due.is("a 13th on one that is there", does(x, "p 0 0 0;"), -10);
    }

    private void crushedOnesThatCanNotBe() {
        fault("x0;", 1);
        fault("x 0", 2);
        fault("p 0 0 1;x 1;", 10);
        fault("p 0 0 1;x1!", 9);
        fault("p 0 0 1;x0;x  0;", 14);
        fault("p 0 0 1;x0;x00", 12);
        PillarRuns x = new PillarRuns();
        x.pillar(3, 3);
        x.runs();
        due.is("a crushed one", does(x, "x 0;"), -12);
        due.is("no refusals", x.told(0) + x.told(1) + x.told(2), 0);
    }

    /** 120 bytes: 60 runs. */
    private void longestText() {
        PillarRuns x = new PillarRuns();
        type(x, "!;".repeat(60));
        due.is("bytes", x.told(3), 120);
        due.is("longest", x.does(), 0);
        type(x, "!;".repeat(59) + " !");
        due.is("longest, too early", x.does(), -130);
        type(x, "9".repeat(120));
        due.is("figures alone", x.does(), -10);
        type(x, "p" + "9".repeat(119));
        due.is("figures", x.does(), -11);
        type(x, " ".repeat(120));
        due.is("blanks alone", x.does(), -130);
        for (int c = 0; c <= 127; c++) {
            boolean starts = "pw-/x!".indexOf(c) >= 0 || c == ' ';
            due.is("byte " + c, does(x, String.valueOf((char) c)), starts ? -11 : -10);
        }
    }

    public static void main(String[] args) {
        TextTest test = new TextTest();
        test.ordersAreDone();
        test.ordersAreDoneInTheirOrder();
        test.blanks();
        test.endsTooEarly();
        test.bytesThatCanNotStand();
        test.numbersNotAsTold();
        test.pillarsThatCanNotBe();
        test.crushedOnesThatCanNotBe();
        test.longestText();
        test.due.end();
    }
}
