/** Each promise of the document by hand: ordinary calls, the edges it names, and wrong ones. */
public final class PromisesTest {
    private static final String INDEX = "throws.IndexOutOfBoundsException";
    private static final String ARGUMENT = "throws.IllegalArgumentException";
    private static final String STATE = "throws.IllegalStateException";

    private PromisesTest() {
    }

    public static void main(String[] args) {
        promise1NewObject();
        promise2Lay();
        promise3Cell();
        promise4Move();
        promise5Over();
        promise6Make();
        promise7Mix();
        promise8Tell();
        promise9Take();
        promise10Fix();
        promise11Find();
        promise12Call();
        promise13Figure();
        promise13Shapes();
        promise14Sum();
        promise15Slant();
        promise16Row();
        promise17Rule();
        promise18Flow();
        promise19Many();
        promise20Nth();
        promise21Sure();
        promise22Odds();
        promise23Net();
        promise24Far();
        promise25Joined();
        promise26Best();
        promise27IsSound();
        promise28Digest();
        Check.end("PromisesTest");
    }

    /** A sheet with the figure that the rows draw, "#" for full. */
    private static Twoshadows drawn(String... rows) {
        Twoshadows x = new Twoshadows();
        x.lay(rows.length, rows[0].length());
        for (int r = 0; r < rows.length; r++) {
            for (int c = 0; c < rows[r].length(); c++) {
                x.cell(r, c, rows[r].charAt(c) == '#');
            }
        }
        return x;
    }

    private static void told(Twoshadows x, boolean isRow, int... sums) {
        for (int number = 0; number < sums.length; number++) {
            x.tell(isRow, number, sums[number]);
        }
    }

    private static void promise1NewObject() {
        Twoshadows x = new Twoshadows();
        int[] due = {3, 3, 0, 0, 0, 0, 0, 1, 1, 0, 0, 0, 31, 0};
        for (int what = 0; what < due.length; what++) {
            Check.same("1: figure(" + what + ")", x.figure(what), due[what]);
        }
        Check.same("1: row", x.row(2), "... ?");
        Check.same("1: many", x.many(), 512);
    }

    private static void promise2Lay() {
        Twoshadows x = drawn("#.", ".#");
        x.take();
        x.fix(0, 0, 1);
        x.mix(1);
        x.call();
        int luck = x.figure(12);
        for (int wrong : new int[] {0, 5, -1, Integer.MIN_VALUE, Integer.MAX_VALUE}) {
            Check.same("2: rows " + wrong, Check.answer(() -> x.lay(wrong, 2)), ARGUMENT);
            Check.same("2: columns " + wrong, Check.answer(() -> x.lay(2, wrong)), ARGUMENT);
        }
        Check.same("2: nothing changed", x.figure(0) * 100 + x.figure(10) * 10 + x.figure(11), 214);
        Check.same("2: lay", x.lay(4, 3), 12);
        Check.same("2: rows", x.figure(0), 4);
        Check.same("2: columns", x.figure(1), 3);
        Check.same("2: empty", x.figure(3), 0);
        Check.same("2: nothing fixed", x.figure(10), 0);
        Check.same("2: nothing told", x.figure(11), 0);
        Check.same("2: luck stays", x.figure(12), luck);
        Check.same("2: refused stays", x.figure(13), 1);
        Check.same("2: many", x.many(), 4096);
        Check.same("2: one cell", x.lay(1, 1), 1);
        Check.same("2: all cells", x.lay(4, 4), 16);
    }

    private static void promise3Cell() {
        Twoshadows x = new Twoshadows();
        x.lay(2, 3);
        Check.same("3: fill", x.cell(1, 2, true), 32);
        Check.same("3: fill more", x.cell(0, 1, true), 34);
        Check.same("3: fill again", x.cell(0, 1, true), 34);
        Check.same("3: empty", x.cell(1, 2, false), 2);
        Check.same("3: empty again", x.cell(1, 2, false), 2);
        for (int wrong : new int[] {-1, 3, Integer.MIN_VALUE, Integer.MAX_VALUE}) {
            Check.same("3: row " + wrong, Check.answer(() -> x.cell(wrong, 0, true)), INDEX);
            Check.same("3: column " + wrong, Check.answer(() -> x.cell(0, wrong, true)), INDEX);
        }
        Check.same("3: row 2 of 2", Check.answer(() -> x.cell(2, 0, true)), INDEX);
        Check.same("3: nothing changed", x.figure(3), 2);
    }

    private static void promise4Move() {
        Twoshadows x = drawn("....", ".#..", ".##.", "....");
        Check.same("4: up and left", x.move(-1, -1), 49);
        Check.same("4: down and right", x.move(2, 2), 49 << 10);
        Check.same("4: left the sheet down", Check.answer(() -> x.move(1, 0)), STATE);
        Check.same("4: left the sheet right", Check.answer(() -> x.move(0, 1)), STATE);
        Check.same("4: left the sheet up", Check.answer(() -> x.move(-3, 0)), STATE);
        Check.same("4: left the sheet left", Check.answer(() -> x.move(0, -3)), STATE);
        Check.same("4: not at all", x.move(0, 0), 49 << 10);
        for (int wrong : new int[] {4, -4, Integer.MIN_VALUE, Integer.MAX_VALUE}) {
            Check.same("4: down " + wrong, Check.answer(() -> x.move(wrong, 3)), ARGUMENT);
            Check.same("4: right " + wrong, Check.answer(() -> x.move(3, wrong)), ARGUMENT);
        }
        Check.same("4: nothing changed", x.figure(3), 49 << 10);
        Twoshadows empty = new Twoshadows();
        Check.same("4: empty", empty.move(3, -3), 0);
        Twoshadows kept = drawn("#.", "..");
        kept.take();
        kept.fix(0, 0, 1);
        kept.move(1, 1);
        Check.same("4: told stays", kept.row(0), ".. 1");
        Check.same("4: fixed stays", kept.sure(0, 0), 1);
    }

    private static void promise5Over() {
        Twoshadows x = drawn("#..", "##.", "...", "..#");
        Check.same("5: up", x.over(true), 1 << 2 | 3 << 6 | 1 << 9);
        Check.same("5: up again", x.over(true), 1 | 3 << 3 | 1 << 11);
        Check.same("5: columns", x.over(false), 1 << 2 | 6 << 3 | 1 << 9);
        Check.same("5: changed", x.figure(3), 1 << 2 | 6 << 3 | 1 << 9);
    }

    private static void promise6Make() {
        Twoshadows x = drawn("#..", ".#.", "..#");
        Check.same("6: switches", x.figure(9), 3);
        Check.same("6: below 0", Check.answer(() -> x.make(-1)), INDEX);
        Check.same("6: too great", Check.answer(() -> x.make(3)), INDEX);
        Check.same("6: nothing changed", x.figure(3), 273);
        Check.same("6: first and second row", x.make(0), 3);
        Check.same("6: code 0", x.figure(3), 2 | 8 | 256);
        Twoshadows y = drawn("#..", ".#.", "..#");
        y.make(1);
        Check.same("6: first and third row", y.figure(3), 4 | 16 | 64);
        Twoshadows z = drawn("#..", ".#.", "..#");
        z.make(2);
        Check.same("6: second and third row", z.figure(3), 1 | 32 | 128);
        Twoshadows w = drawn("#..", ".##");
        Check.same("6: pieces then", w.make(1), 2);
        Check.same("6: by second column", w.figure(3), 4 | 8 | 16);
        Twoshadows v = drawn("##", "..");
        Check.same("6: none", Check.answer(() -> v.make(0)), INDEX);
    }

    private static void promise7Mix() {
        Twoshadows x = drawn("#..", ".#.", "..#");
        for (int wrong : new int[] {0, 51, -1, Integer.MIN_VALUE, Integer.MAX_VALUE}) {
            Check.same("7: steps " + wrong, Check.answer(() -> x.mix(wrong)), ARGUMENT);
        }
        Check.same("7: nothing changed", x.figure(12), 31);
        Check.same("7: made", x.mix(1), 1);
        Check.same("7: luck", x.figure(12), 144);
        Check.same("7: number 144 % 3", x.figure(3), 2 | 8 | 256);
        Check.same("7: made more", x.mix(1), 1);
        Check.same("7: luck then", x.figure(12), 109);
        Check.same("7: number 109 % 3", x.figure(3), 4 | 8 | 128);
        Check.same("7: made many", x.mix(50), 50);
        Twoshadows none = drawn("###", "#..");
        Check.same("7: none to make", none.mix(50), 0);
        Check.same("7: not drawn", none.figure(12), 31);
    }

    private static void promise8Tell() {
        Twoshadows x = new Twoshadows();
        x.lay(2, 4);
        Check.same("8: before", x.tell(true, 1, 4), -1);
        Check.same("8: then", x.tell(true, 1, 0), 4);
        Check.same("8: taken back", x.tell(true, 1, -1), 0);
        Check.same("8: none", x.tell(true, 1, -1), -1);
        Check.same("8: column", x.tell(false, 3, 2), -1);
        Check.same("8: told", x.figure(11), 1);
        Check.same("8: no row", Check.answer(() -> x.tell(true, 2, 9)), INDEX);
        Check.same("8: no column", Check.answer(() -> x.tell(false, 4, 9)), INDEX);
        Check.same("8: row below 0", Check.answer(() -> x.tell(true, -1, 0)), INDEX);
        Check.same("8: too great in a row", Check.answer(() -> x.tell(true, 0, 5)), ARGUMENT);
        Check.same("8: too great in a column", Check.answer(() -> x.tell(false, 0, 3)), ARGUMENT);
        Check.same("8: below none", Check.answer(() -> x.tell(false, 3, -2)), ARGUMENT);
        Check.same("8: nothing changed", x.sum(false, 3, true), 2);
        Check.same("8: figure stays", x.figure(3), 0);
    }

    private static void promise9Take() {
        Twoshadows x = drawn("##.", "..#");
        x.tell(true, 0, 0);
        Check.same("9: full", x.take(), 3);
        Check.same("9: told", x.figure(11), 5);
        Check.same("9: row 0", x.sum(true, 0, true), 2);
        Check.same("9: row 1", x.sum(true, 1, true), 1);
        Check.same("9: column 2", x.sum(false, 2, true), 1);
        Check.same("9: many", x.many(), 3);
        x.cell(1, 2, false);
        Check.same("9: told stays", x.sum(true, 1, true), 1);
        Check.same("9: again", x.take(), 2);
        Check.same("9: many again", x.many(), 1);
    }

    private static void promise10Fix() {
        Twoshadows x = new Twoshadows();
        Check.same("10: full", x.fix(0, 0, 1), 1);
        Check.same("10: empty", x.fix(2, 1, 0), 2);
        Check.same("10: the other way", x.fix(0, 0, 0), 2);
        Check.same("10: as empty", x.sure(0, 0), 0);
        Check.same("10: back", x.fix(0, 0, 1), 2);
        Check.same("10: as full", x.sure(0, 0), 1);
        Check.same("10: freed", x.fix(2, 1, -1), 1);
        Check.same("10: free already", x.fix(2, 1, -1), 1);
        Check.same("10: figure stays", x.figure(3), 0);
        Check.same("10: no cell", Check.answer(() -> x.fix(3, 0, 2)), INDEX);
        Check.same("10: no cell right", Check.answer(() -> x.fix(0, 3, 0)), INDEX);
        Check.same("10: below 0", Check.answer(() -> x.fix(-1, 0, 0)), INDEX);
        Check.same("10: what 2", Check.answer(() -> x.fix(0, 0, 2)), ARGUMENT);
        Check.same("10: what -2", Check.answer(() -> x.fix(0, 0, -2)), ARGUMENT);
        Check.same("10: nothing changed", x.figure(10), 1);
    }

    private static void promise11Find() {
        Twoshadows x = drawn("#.", ".#");
        x.take();
        Check.same("11: below 0", Check.answer(() -> x.find(-1)), STATE);
        Check.same("11: not so many", Check.answer(() -> x.find(2)), STATE);
        Check.same("11: far too many", Check.answer(() -> x.find(Integer.MAX_VALUE)), STATE);
        Check.same("11: nothing changed", x.figure(3), 9);
        Check.same("11: first", x.find(0), 6);
        Check.same("11: figure", x.figure(3), 6);
        Check.same("11: second", x.find(1), 9);
        x.tell(true, 0, 2);
        Check.same("11: none", Check.answer(() -> x.find(0)), STATE);
        x.lay(4, 4);
        Check.same("11: last of all", x.find(65535), 65535);
        Check.same("11: no more", Check.answer(() -> x.find(65536)), STATE);
    }

    private static void promise12Call() {
        Twoshadows x = new Twoshadows();
        Check.same("12: once", x.call(), 1);
        Check.same("12: twice", x.call(), 2);
        Check.same("12: counted", x.figure(13), 2);
    }

    private static void promise13Figure() {
        Twoshadows x = drawn("#.#.", ".#..");
        x.tell(true, 0, 2);
        x.fix(1, 3, 0);
        x.call();
        int[] due = {2, 4, 3, 37, 3, 0, 12, 0, 1, 2, 1, 1, 31, 1};
        for (int what = 0; what < due.length; what++) {
            Check.same("13: figure(" + what + ")", x.figure(what), due[what]);
        }
        Check.same("13: 14", Check.answer(() -> x.figure(14)), ARGUMENT);
        Check.same("13: -1", Check.answer(() -> x.figure(-1)), ARGUMENT);
        Check.same("13: least", Check.answer(() -> x.figure(Integer.MIN_VALUE)), ARGUMENT);
    }

    private static void promise13Shapes() {
        Twoshadows ring = drawn("####", "#..#", "####", "....");
        Check.same("13: one piece", ring.figure(4), 1);
        Check.same("13: one hole", ring.figure(5), 1);
        Check.same("13: border inside and outside", ring.figure(6), 20);
        Check.same("13: not even by rows", ring.figure(7), 0);
        Check.same("13: not even by columns", ring.figure(8), 0);
        Twoshadows two = drawn(".##.", "#.##", "##.#", ".##.");
        Check.same("13: two holes by sides", two.figure(5), 2);
        Check.same("13: one piece by sides", two.figure(4), 2);
        Twoshadows open = drawn(".#.", "#.#", "...");
        Check.same("13: no hole", open.figure(5), 0);
        Check.same("13: pieces", open.figure(4), 3);
        Twoshadows bar = drawn(".###");
        Check.same("13: even by rows", bar.figure(7), 1);
        Check.same("13: even by columns", bar.figure(8), 1);
        Check.same("13: border of a bar", bar.figure(6), 8);
        // the end of a row and the start of the next one do not hang together
        Twoshadows ends = drawn("..#", "#..");
        Check.same("13: ends apart", ends.figure(4), 2);
        Check.same("13: border of ends", ends.figure(6), 8);
        Check.same("13: ends are even", ends.figure(7), 1);
    }

    private static void promise14Sum() {
        Twoshadows x = drawn("##.", "..#");
        x.tell(false, 2, 2);
        Check.same("14: row", x.sum(true, 0, false), 2);
        Check.same("14: column", x.sum(false, 2, false), 1);
        Check.same("14: told", x.sum(false, 2, true), 2);
        Check.same("14: not told", x.sum(true, 0, true), -1);
        Check.same("14: no row", Check.answer(() -> x.sum(true, 2, true)), INDEX);
        Check.same("14: no column", Check.answer(() -> x.sum(false, 3, false)), INDEX);
        Check.same("14: below 0", Check.answer(() -> x.sum(false, -1, true)), INDEX);
    }

    private static void promise15Slant() {
        Twoshadows x = drawn("#.#.", ".#.#");
        int[] down = {0, 2, 0, 2, 0};
        int[] up = {1, 0, 2, 0, 1};
        for (int number = 0; number < 5; number++) {
            Check.same("15: down " + number, x.slant(true, number), down[number]);
            Check.same("15: up " + number, x.slant(false, number), up[number]);
        }
        Check.same("15: down 5", Check.answer(() -> x.slant(true, 5)), INDEX);
        Check.same("15: up 5", Check.answer(() -> x.slant(false, 5)), INDEX);
        Check.same("15: below 0", Check.answer(() -> x.slant(true, -1)), INDEX);
    }

    private static void promise16Row() {
        Twoshadows x = drawn("#.#.", "....");
        x.tell(true, 1, 4);
        Check.same("16: none told", x.row(0), "#.#. ?");
        Check.same("16: told", x.row(1), ".... 4");
        Check.same("16: no row", Check.answer(() -> x.row(2)), INDEX);
        Check.same("16: below 0", Check.answer(() -> x.row(-1)), INDEX);
    }

    private static void promise17Rule() {
        Twoshadows x = new Twoshadows();
        Check.same("17: nothing told", x.rule(), false);
        told(x, true, 3, 1, 1);
        told(x, false, 3, 1);
        Check.same("17: not all told", x.rule(), false);
        x.tell(false, 2, 1);
        Check.same("17: kept", x.rule(), true);
        x.tell(true, 1, 0);
        Check.same("17: not the same together", x.rule(), false);
        told(x, true, 3, 3, 0);
        told(x, false, 3, 2, 1);
        Check.same("17: one column too great", x.rule(), false);
        told(x, true, 3, 3, 0);
        told(x, false, 2, 2, 2);
        Check.same("17: kept too", x.rule(), true);
        x.fix(0, 0, 0);
        Check.same("17: whatever is fixed", x.rule(), true);
    }

    private static void promise18Flow() {
        Twoshadows x = new Twoshadows();
        Check.same("18: nothing told", x.flow(false), 9);
        Check.same("18: none", x.flow(true), -1);
        told(x, true, 3, 3, 0);
        Check.same("18: rows", x.flow(false), 6);
        told(x, false, 3, 2, 1);
        Check.same("18: flow", x.flow(false), 5);
        Check.same("18: wrong", x.flow(true), 2);
        x.fix(0, 0, 0);
        Check.same("18: whatever is fixed", x.flow(false), 5);
        told(x, true, 0, 0, 0);
        Check.same("18: nothing can flow", x.flow(false), 0);
        Check.same("18: wrong then", x.flow(true), 6);
    }

    private static void promise19Many() {
        Twoshadows x = new Twoshadows();
        x.lay(4, 4);
        Check.same("19: all", x.many(), 65536);
        x.tell(false, 0, 4);
        Check.same("19: a full column", x.many(), 4096);
        x.tell(false, 0, -1);
        told(x, true, 2, 2, 2, 2);
        Check.same("19: rows", x.many(), 1296);
        told(x, false, 2, 2, 2, 2);
        Check.same("19: the most of all sums", x.many(), 90);
        x.fix(0, 0, 1);
        Check.same("19: fixed", x.many(), 45);
        x.tell(false, 0, 0);
        Check.same("19: none", x.many(), 0);
        Check.same("19: figure stays", x.figure(3), 0);
    }

    private static void promise20Nth() {
        Twoshadows x = drawn("#.", ".#");
        x.take();
        Check.same("20: first", x.nth(0), 6);
        Check.same("20: second", x.nth(1), 9);
        Check.same("20: none", x.nth(2), -1);
        Check.same("20: none by far", x.nth(Integer.MAX_VALUE), -1);
        Check.same("20: below 0", Check.answer(() -> x.nth(-1)), ARGUMENT);
        Check.same("20: figure stays", x.figure(3), 9);
    }

    private static void promise21Sure() {
        Twoshadows x = new Twoshadows();
        x.lay(2, 3);
        x.tell(true, 0, 3);
        x.tell(false, 0, 1);
        Check.same("21: full", x.sure(0, 0), 1);
        Check.same("21: empty", x.sure(1, 0), 0);
        Check.same("21: not sure", x.sure(1, 1), 2);
        x.fix(0, 0, 0);
        Check.same("21: none fits", x.sure(0, 0), -1);
        Check.same("21: no row", Check.answer(() -> x.sure(2, 0)), INDEX);
        Check.same("21: no column", Check.answer(() -> x.sure(0, 3)), INDEX);
        Check.same("21: below 0", Check.answer(() -> x.sure(0, -1)), INDEX);
    }

    private static void promise22Odds() {
        Twoshadows x = new Twoshadows();
        x.lay(1, 3);
        x.tell(true, 0, 1);
        Check.same("22: a third", x.odds(0, 1), 1.0 / 3.0);
        x.fix(0, 0, 0);
        Check.same("22: half", x.odds(0, 1), 0.5);
        Check.same("22: never", x.odds(0, 0), 0.0);
        x.fix(0, 1, 0);
        Check.same("22: always", x.odds(0, 2), 1.0);
        x.fix(0, 2, 0);
        Check.same("22: none fits", x.odds(0, 2), 0.0);
        Check.same("22: no row", Check.answer(() -> x.odds(1, 0)), INDEX);
        Check.same("22: no column", Check.answer(() -> x.odds(0, 3)), INDEX);
        Check.same("22: below 0", Check.answer(() -> x.odds(-1, 0)), INDEX);
    }

    private static void promise23Net() {
        Check.same("23: empty", new Twoshadows().net(), 1);
        Check.same("23: three", drawn("#..", ".#.", "..#").net(), 6);
        Check.same("23: the most", drawn("##..", "##..", "..##", "..##").net(), 90);
        Check.same("23: alone", drawn("###", "#..").net(), 1);
        Twoshadows x = drawn("#..", ".#.", "..#");
        x.tell(true, 0, 0);
        x.fix(0, 0, 0);
        Check.same("23: whatever is told and fixed", x.net(), 6);
    }

    private static void promise24Far() {
        Twoshadows x = drawn("#..", ".#.", "..#");
        Check.same("24: itself", x.far(273), 0);
        Check.same("24: one", x.far(2 | 8 | 256), 1);
        Check.same("24: two", x.far(2 | 32 | 64), 2);
        Check.same("24: not in the net", x.far(0), -1);
        Check.same("24: the last code", x.far(511), -1);
        Check.same("24: too great", Check.answer(() -> x.far(512)), ARGUMENT);
        Check.same("24: below 0", Check.answer(() -> x.far(-1)), ARGUMENT);
        Check.same("24: far too great", Check.answer(() -> x.far(Integer.MAX_VALUE)), ARGUMENT);
        Check.same("24: figure stays", x.figure(3), 273);
    }

    private static void promise25Joined() {
        Check.same("25: empty", new Twoshadows().joined(), -1);
        Check.same("25: joined already", drawn("##", ".#").joined(), 0);
        Check.same("25: never", drawn("#..", ".#.", "..#").joined(), -1);
        Twoshadows x = drawn("##.", ".##", "#..");
        Check.same("25: one switch", x.joined(), 1);
        Check.same("25: figure stays", x.figure(3), 115);
        x.make(0);
        Check.same("25: the switch", x.figure(4), 1);
        Check.same("25: two switches", drawn("##.", "#.#", ".#.").joined(), 2);
        Check.same("25: three switches", drawn("..#.", ".#.#", ".###", "#...").joined(), 3);
    }

    private static void promise26Best() {
        Twoshadows x = drawn("#.", ".#");
        x.take();
        Check.same("26: as good", x.best(true), 0);
        Check.same("26: worst", x.best(false), 1);
        Twoshadows up = new Twoshadows();
        up.lay(2, 2);
        up.fix(0, 1, 0);
        up.fix(1, 0, 0);
        // the two cells that are free lie in one slant that goes down, and in two that go up
        Check.same("26: up", up.best(true), 1);
        Check.same("26: up worst", up.best(false), 1);
        up.lay(2, 2);
        up.fix(0, 0, 0);
        up.fix(1, 1, 0);
        Check.same("26: down", up.best(true), 0);
        Check.same("26: down worst", up.best(false), 1);
        Twoshadows all = new Twoshadows();
        Check.same("26: nothing told", all.best(true), 0);
        Check.same("26: nothing told worst", all.best(false), 12);
        all.tell(true, 0, 0);
        all.fix(0, 0, 1);
        Check.same("26: none fits", all.best(true), 0);
        Check.same("26: none fits worst", all.best(false), 0);
    }

    private static void promise27IsSound() {
        Twoshadows x = drawn("#.##", ".#..", "##..");
        Check.same("27: nothing told", x.isSound(), true);
        x.take();
        Check.same("27: taken", x.isSound(), true);
        x.tell(true, 0, 4);
        Check.same("27: wrong sums", x.isSound(), true);
        x.fix(0, 0, 0);
        Check.same("27: fixed", x.isSound(), true);
    }

    private static void promise28Digest() {
        Twoshadows x = new Twoshadows();
        x.lay(1, 1);
        long[] v = {1, 1, 0, 0, 0, 0, 0, 1, 1, 0, 0, 0, 31, 0, -1, 0, -1, 0, 0, 0, 0, 1, -1, 2, 0, 1, -1, 2, 8, 1, -1,
            0, 1, 1};
        long d = 6857;
        for (long one : v) {
            d = d * 31 + one;
        }
        Check.same("28: one cell", x.digest(), d);
        Check.same("28: changes nothing", x.digest(), d);
    }
}
