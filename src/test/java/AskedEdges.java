import java.math.BigInteger;
import java.util.ArrayList;
import java.util.List;

/** The edges of what is asked, of best, isSound and digest, and of calls that throw: promises 12 to 16, 26 to 28. */
final class AskedEdges {
    private AskedEdges() {
    }

    static void run() {
        none();
        call();
        figure();
        sum();
        slant();
        row();
        worst();
        best();
        digest();
        digestParts();
        thrown();
        firstNamed();
        calls();
    }

    private static void none() {
        Edge.of("Description", "NONE is -1");
        Twoshadows x = new Twoshadows();
        Edge.same("a sum that is not told", x.sum(true, 0, true), -1);
        Edge.same("wrong", x.flow(true), -1);
        Edge.same("told before", x.tell(true, 0, 0), -1);
        Edge.same("taken back by it", x.tell(true, 0, -1), 0);
        Edge.same("freed by it", x.fix(0, 0, 1) - x.fix(0, 0, -1), 1);
        Edge.same("behind the last", x.nth(512), -1);
        Edge.same("not in the net", x.far(1), -1);
        Edge.same("never joined", x.joined(), -1);
        x.fix(0, 0, 1);
        x.tell(true, 0, 0);
        Edge.same("no figure fits", x.sure(2, 2), -1);
    }

    private static void call() {
        Edge.of("4. What is asked next", "who calls sees no light, and is REFUSED (counted)");
        Twoshadows x = new Twoshadows();
        Edge.same("none at first", x.figure(13), 0);
        x.call();
        Edge.same("one", x.figure(13), 1);
        Edge.of("Promise 12", "Calls the KEEPER");
        Twoshadows called = Edge.busy(3, 4);
        called.call();
        String due = Edge.figures(Edge.busy(3, 4));
        Edge.same("nothing else changes", Edge.figures(called), due.substring(0, due.length() - 2) + "2 ");
        Edge.of("Promise 12", "Returns how many were REFUSED ever, with this");
        Twoshadows y = new Twoshadows();
        Edge.same("the first", y.call(), 1);
        Edge.same("the second", y.call(), 2);
        y.lay(1, 1);
        Edge.same("a new sheet forgets none", y.call(), 3);
        Check.answer(() -> y.figure(14));
        Edge.same("a call that throws is none", y.figure(13), 3);
    }

    private static void figure() {
        Edge.of("Promise 13", "`what`: 0 ROWS, 1 COLUMNS, 2 FULL CELLS, 3 CODE, 4 PIECES, 5 HOLES, 6 BORDER");
        Twoshadows x = Edge.drawn("#.#.", ".#..");
        x.mix(1);
        x.mix(1);
        x.tell(true, 0, 2);
        x.tell(false, 3, 0);
        x.tell(false, 0, 0);
        x.fix(1, 3, 0);
        x.fix(0, 3, 0);
        x.fix(0, 0, 1);
        x.fix(0, 1, 1);
        x.call();
        Edge.same("row 0", x.row(0), "##.. 2");
        Edge.same("row 1", x.row(1), "..#. ?");
        Edge.same("figure() of 0 to 13", Edge.figures(x), "2 4 3 67 2 0 10 1 1 2 4 3 109 1 ");
        Edge.of("Promise 13", "Returns that (0 for 1 otherwise)");
        Edge.same("not even by rows", Edge.drawn("#.#").figure(7), 0);
        Edge.same("even by columns", Edge.drawn("#.#").figure(8), 1);
        Edge.same("even by rows", Edge.drawn("#", ".", "#").figure(7), 1);
        Edge.same("not even by columns", Edge.drawn("#", ".", "#").figure(8), 0);
        Twoshadows all = Edge.full(4, 4);
        Edge.fixAll(all, 1);
        all.take();
        Edge.same("full, all told, all fixed", Edge.figures(all), "4 4 16 65535 1 0 16 1 1 0 16 8 31 0 ");
        Edge.of("Promise 13", "if what is not 0 to 13");
        for (int wrong : new int[] {-1, 14, 15, -2, Edge.LEAST, Edge.GREATEST}) {
            Edge.refused("figure " + wrong, () -> Edge.busy(3, 4), y -> y.figure(wrong), Edge.ARGUMENT);
        }
    }

    private static void sum() {
        Edge.of("Promise 14", "whether of a row, otherwise of a column");
        Twoshadows x = Edge.drawn("##.", "..#", ".#.", "...");
        Edge.same("row 1", x.sum(true, 1, false), 1);
        Edge.same("column 1", x.sum(false, 1, false), 2);
        Edge.of("Promise 14", "`number`: which one");
        Edge.same("the last row", x.sum(true, 3, false), 0);
        Edge.same("the last column", x.sum(false, 2, false), 1);
        Edge.of("Promise 14", "whether what is TOLD (NONE), otherwise that of the FIGURE");
        Edge.same("not told", x.sum(true, 0, true), -1);
        x.tell(true, 0, 0);
        Edge.same("told", x.sum(true, 0, true), 0);
        Edge.same("of the figure", x.sum(true, 0, false), 2);
        x.tell(true, 0, Edge.NONE);
        Edge.same("taken back", x.sum(true, 0, true), -1);
        Edge.of("Promise 14", "Returns the SUM");
        Edge.same("the most of a row", Edge.full(1, 4).sum(true, 0, false), 4);
        Edge.same("the most of a column", Edge.full(4, 1).sum(false, 0, false), 4);
        Edge.of("Promise 14", "if there is no such row, or column");
        Edge.eachSheet((rows, columns) -> {
            for (boolean isTold : new boolean[] {true, false}) {
                for (int wrong : new int[] {-1, rows, Edge.LEAST, Edge.GREATEST}) {
                    Edge.refused(Edge.size(rows, columns) + " row " + wrong, () -> Edge.busy(rows, columns),
                        y -> y.sum(true, wrong, isTold), Edge.INDEX);
                }
                for (int wrong : new int[] {-1, columns, Edge.LEAST, Edge.GREATEST}) {
                    Edge.refused(Edge.size(rows, columns) + " column " + wrong, () -> Edge.busy(rows, columns),
                        y -> y.sum(false, wrong, isTold), Edge.INDEX);
                }
            }
        });
    }

    private static void slant() {
        Edge.of("Promise 15", "whether of a SLANT that goes DOWN, otherwise UP");
        Twoshadows x = Edge.drawn("#..", ".#.", "..#");
        Edge.same("down", Edge.slants(x, true), "00300");
        Edge.same("up", Edge.slants(x, false), "10101");
        Edge.of("Promise 15", "`number`: which one");
        Twoshadows corners = Edge.drawn("#...", "....", "...#");
        Edge.same("down, the last row of the first column", Edge.drawn("..", "#.").slant(true, 0), 1);
        Edge.same("down, the first row of the last column", Edge.drawn(".#", "..").slant(true, 2), 1);
        Edge.same("up, the first", corners.slant(false, 0), 1);
        Edge.same("up, the last", corners.slant(false, 5), 1);
        Edge.of("Promise 15", "Returns the SUM of that SLANT of the FIGURE");
        Edge.same("the most", Edge.full(4, 4).slant(true, 3), 4);
        Edge.same("the least", Edge.laid(4, 4).slant(false, 3), 0);
        Edge.of("Promise 15", "if there is no such SLANT");
        Edge.eachSheet((rows, columns) -> {
            for (boolean isDown : new boolean[] {true, false}) {
                for (int wrong : new int[] {-1, rows + columns - 1, Edge.LEAST, Edge.GREATEST}) {
                    Edge.refused(Edge.size(rows, columns) + " slant " + wrong, () -> Edge.busy(rows, columns),
                        y -> y.slant(isDown, wrong), Edge.INDEX);
                }
            }
        });
    }

    private static void row() {
        Edge.of("Promise 16", "`row`: a row");
        Edge.same("the last one", Edge.drawn(".", ".", ".", "#").row(3), "# ?");
        Edge.of("Promise 16", "\"#\" FULL, \".\" EMPTY");
        Edge.same("one of each", Edge.drawn("#..#").row(0), "#..# ?");
        Edge.of("Promise 16", "and the SUM that is TOLD (\"?\" for none)");
        Edge.eachSheet((rows, columns) -> {
            Twoshadows empty = Edge.laid(rows, columns);
            String size = Edge.size(rows, columns);
            Edge.same(size + " empty, none", empty.row(rows - 1), ".".repeat(columns) + " ?");
            empty.tell(true, rows - 1, columns);
            Edge.same(size + " empty, the greatest", empty.row(rows - 1), ".".repeat(columns) + " " + columns);
            Twoshadows full = Edge.full(rows, columns);
            full.tell(true, rows - 1, 0);
            Edge.same(size + " full, the least", full.row(rows - 1), "#".repeat(columns) + " 0");
            full.tell(true, rows - 1, Edge.NONE);
            full.tell(false, 0, 1);
            Edge.same(size + " full, taken back", full.row(rows - 1), "#".repeat(columns) + " ?");
        });
        Edge.of("Promise 16", "if there is no such row");
        Edge.eachSheet((rows, columns) -> {
            for (int wrong : new int[] {-1, rows, Edge.LEAST, Edge.GREATEST}) {
                Edge.refused(Edge.size(rows, columns) + " row " + wrong, () -> Edge.busy(rows, columns),
                    y -> y.row(wrong), Edge.INDEX);
            }
        });
    }

    private static void worst() {
        Edge.of("4. What is asked next", "(0, if none FITS)");
        Edge.eachSheet((rows, columns) -> {
            Twoshadows x = Edge.laid(rows, columns);
            String size = Edge.size(rows, columns);
            x.tell(true, 0, 0);
            x.fix(0, 0, 1);
            Edge.same(size + " none", x.best(false), 0);
            Edge.same(size + " none, the direction", x.best(true), 0);
            x.tell(true, 0, 1);
            Edge.fixAll(x, 0);
            x.fix(0, columns - 1, 1);
            Edge.same(size + " one", x.best(false), 1);
            Edge.same(size + " one, the direction", x.best(true), 0);
            Edge.fixAll(x, 0);
            x.tell(true, 0, 0);
            Edge.same(size + " the empty one", x.best(false), 1);
            Twoshadows full = Edge.full(rows, columns);
            full.take();
            Edge.same(size + " the full one", full.best(false), 1);
        });
        Edge.of("4. What is asked next", "at the worst so many FIGURES that FIT would have the same ones");
        Edge.same("nothing told, one cell", Edge.laid(1, 1).best(false), 1);
        Edge.same("nothing told, one row", Edge.laid(1, 4).best(false), 1);
        Edge.same("nothing told, 2 by 2", Edge.laid(2, 2).best(false), 2);
        Edge.same("nothing told, 2 by 4", Edge.laid(2, 4).best(false), 2 * 2 * 2);
        Edge.same("nothing told, 3 by 3", Edge.laid(3, 3).best(false), 2 * 3 * 2);
        Edge.same("nothing told, 4 by 4", Edge.laid(4, 4).best(false), 2 * 3 * 6 * 3 * 2);
        Twoshadows x = Edge.laid(1, 2);
        x.tell(true, 0, 1);
        Edge.same("two that differ", x.best(false), 1);
    }

    private static void best() {
        Edge.of("4. What is asked next", "the direction with the smaller WORST");
        Twoshadows x = slanting(true);
        Edge.same("up", x.best(true), 1);
        Edge.same("its worst", x.best(false), 1);
        Twoshadows y = slanting(false);
        Edge.same("down", y.best(true), 0);
        Edge.same("its worst, too", y.best(false), 1);
        Edge.of("4. What is asked next", "(DOWN, if both are as good)");
        Edge.eachSheet((rows, columns) -> {
            Edge.same(Edge.size(rows, columns) + " nothing told", Edge.laid(rows, columns).best(true), 0);
            Twoshadows full = Edge.full(rows, columns);
            full.take();
            Edge.same(Edge.size(rows, columns) + " full", full.best(true), 0);
        });
        Edge.of("Description", "of several as good the smallest number is taken");
        Twoshadows z = Edge.drawn("#.", ".#");
        z.take();
        Edge.same("two that fit", z.best(true), 0);
        Edge.of("Promise 26", "whether the BEST SLANT (0 DOWN, 1 UP), otherwise its WORST");
        Twoshadows three = Edge.laid(3, 3);
        freeSlant(three, true);
        Edge.same("three free in one that goes down", three.best(true), 1);
        Edge.same("its worst of three", three.best(false), 1);
        three.fix(0, 1, Edge.NONE);
        Edge.same("another one free", three.best(true), 1);
        Edge.same("its worst of four", three.best(false), 1);
        three.fix(1, 0, Edge.NONE);
        Edge.same("both others free", three.best(true), 1);
        Edge.same("its worst of five", three.best(false), 2);
        Edge.of("Promise 26", "Returns that");
        freeSlant(three, false);
        Edge.same("three free in one that goes up", three.best(true), 0);
        Edge.same("its worst, again", three.best(false), 1);
    }

    /** Of 2 by 2 cells only the two are free that lie in one slant of that direction. */
    private static Twoshadows slanting(boolean isDown) {
        Twoshadows x = Edge.laid(2, 2);
        x.fix(0, isDown ? 1 : 0, 0);
        x.fix(1, isDown ? 0 : 1, 0);
        return x;
    }

    private static void freeSlant(Twoshadows x, boolean isDown) {
        Edge.fixAll(x, 0);
        for (int row = 0; row < 3; row++) {
            x.fix(row, isDown ? row : 2 - row, Edge.NONE);
        }
    }

    private static void digest() {
        Edge.of("Promise 28", "A number d starts with 6857; then d becomes d * 31 + v, which wraps around");
        Edge.eachSheet((rows, columns) -> {
            String size = Edge.size(rows, columns);
            sameDigest(size + " empty", Edge.laid(rows, columns));
            sameDigest(size + " full", Edge.full(rows, columns));
            sameDigest(size + " busy", Edge.busy(rows, columns));
            Twoshadows x = Edge.full(rows, columns);
            x.take();
            sameDigest(size + " full, taken", x);
            Edge.fixAll(x, 0);
            sameDigest(size + " none fits", x);
        });
        Edge.of("Promise 28", "Computes a checksum");
        Twoshadows x = Edge.busy(4, 4);
        long first = x.digest();
        Edge.same("of the same state", x.digest(), first);
        Edge.same("of another object", Edge.busy(4, 4).digest(), first);
        x.call();
        Edge.same("of another state", x.digest() == first, false);
        Edge.of("Promise 28", "Returns d");
        // reckoned by hand: the 34 numbers of a sheet of one cell
        int[] v = {1, 1, 0, 0, 0, 0, 0, 1, 1, 0, 0, 0, 31, 0, -1, 0, -1, 0, 0, 0, 0, 1, -1, 2, 0, 1, -1, 2, 8, 1, -1, 0,
            1, 1};
        BigInteger d = BigInteger.valueOf(6857);
        for (int one : v) {
            d = d.multiply(BigInteger.valueOf(31)).add(BigInteger.valueOf(one));
        }
        Edge.same("more than 64 bits", d.bitLength() > 64, true);
        Edge.same("one cell", Edge.laid(1, 1).digest(), d.longValue());
    }

    /** The checksum as it comes from the answers of the other calls, reckoned without wrapping around until the end. */
    private static void sameDigest(String what, Twoshadows x) {
        List<Long> v = new ArrayList<>();
        for (int asked = 0; asked <= 13; asked++) {
            v.add((long) x.figure(asked));
        }
        for (boolean isRow : new boolean[] {true, false}) {
            for (int number = 0; number < Edge.lines(x, isRow); number++) {
                v.add((long) x.sum(isRow, number, true));
                v.add((long) x.sum(isRow, number, false));
            }
        }
        for (boolean isDown : new boolean[] {true, false}) {
            for (int number = 0; number < x.figure(0) + x.figure(1) - 1; number++) {
                v.add((long) x.slant(isDown, number));
            }
        }
        v.add(x.rule() ? 1L : 0L);
        v.add((long) x.flow(false));
        v.add((long) x.flow(true));
        v.add((long) x.many());
        for (int nth = 0; nth <= 2; nth++) {
            v.add((long) x.nth(nth));
        }
        for (int row = 0; row < x.figure(0); row++) {
            for (int column = 0; column < x.figure(1); column++) {
                v.add((long) x.sure(row, column));
                v.add((long) (16 * x.odds(row, column)));
            }
        }
        v.add((long) x.net());
        v.add((long) x.joined());
        v.add((long) x.best(true));
        v.add((long) x.best(false));
        v.add(x.isSound() ? 1L : 0L);
        BigInteger d = BigInteger.valueOf(6857);
        for (long one : v) {
            d = d.multiply(BigInteger.valueOf(31)).add(BigInteger.valueOf(one));
        }
        Edge.same(what + ", more than 64 bits", d.bitLength() > 64, true);
        Edge.same(what, x.digest(), d.longValue());
    }

    private static void digestParts() {
        Edge.of("Promise 28", "16 times odds() (that product cut to a whole number)");
        for (int sum = 0; sum <= 3; sum++) {
            Twoshadows x = Edge.laid(1, 3);
            x.tell(true, 0, sum);
            sameDigest("one row of " + sum, x);
            int[] cut = {0, 5, 10, 16};
            Edge.same("a third, " + sum + " times", (int) (16 * x.odds(0, 2)), cut[sum]);
        }
        Edge.of("Promise 28", "nth() of 0 to 2");
        for (int many = 0; many <= 4; many++) {
            Twoshadows x = Edge.laid(2, 2);
            x.tell(true, 0, many == 0 || many == 4 ? 1 : 0);
            x.fix(0, 0, many == 0 ? 1 : Edge.NONE);
            x.fix(0, 1, many == 0 ? 1 : Edge.NONE);
            x.fix(1, 0, many == 1 || many == 4 ? 0 : Edge.NONE);
            x.tell(false, 1, many == 1 ? 0 : many == 2 ? 1 : Edge.NONE);
            Edge.same("how many", x.many(), new int[] {0, 1, 2, 4, 4}[many]);
            sameDigest("so many: " + many, x);
        }
        Edge.of("Promise 28", "rule() (1 or 0)");
        Twoshadows x = Edge.drawn("##.", ".##", "#..");
        sameDigest("nothing told", x);
        x.take();
        sameDigest("the rule holds", x);
        x.tell(false, 0, 3);
        sameDigest("the rule does not hold", x);
        x.mix(7);
        sameDigest("mixed", x);
        Edge.of("Promise 28", "best(), the direction, then WORST");
        sameDigest("up", slanting(true));
        sameDigest("down", slanting(false));
    }

    private static void thrown() {
        Edge.of("4. What is asked next", "A method that throws an exception changes nothing");
        Edge.eachSheet((rows, columns) -> {
            Twoshadows x = Edge.busy(rows, columns);
            for (int turn = 0; turn < 3; turn++) {
                callAllWrong(x, rows, columns);
            }
            Edge.same(Edge.size(rows, columns), Edge.wholeState(x), Edge.wholeState(Edge.busy(rows, columns)));
        });
    }

    private static void callAllWrong(Twoshadows x, int rows, int columns) {
        int behind = 1 << (rows * columns);
        String[] got = {Check.answer(() -> x.lay(rows, 5)), Check.answer(() -> x.move(0, 4)),
            Check.answer(() -> x.mix(51)), Check.answer(() -> x.tell(true, 0, columns + 1)),
            Check.answer(() -> x.fix(0, 0, 2)), Check.answer(() -> x.figure(14)), Check.answer(() -> x.nth(-1)),
            Check.answer(() -> x.far(behind)), Check.answer(() -> x.cell(rows, 0, true)),
            Check.answer(() -> x.make(36)), Check.answer(() -> x.tell(false, columns, 0)),
            Check.answer(() -> x.fix(0, columns, 0)), Check.answer(() -> x.sum(true, rows, false)),
            Check.answer(() -> x.slant(true, rows + columns - 1)), Check.answer(() -> x.row(rows)),
            Check.answer(() -> x.sure(rows, 0)), Check.answer(() -> x.odds(0, columns)),
            Check.answer(() -> x.move(3, 3)), Check.answer(() -> x.find(behind))};
        for (int number = 0; number < got.length; number++) {
            String due = number < 8 ? Edge.ARGUMENT : number < 17 ? Edge.INDEX : Edge.STATE;
            Edge.same(Edge.size(rows, columns) + " call " + number, got[number], due);
        }
    }

    private static void firstNamed() {
        Edge.of("4. What is asked next", "the one that is named first is thrown");
        Edge.refused("move, 4 down and out of the sheet", () -> Edge.full(2, 2), x -> x.move(4, 1), Edge.ARGUMENT);
        Edge.refused("move, 4 to the left and out", () -> Edge.full(4, 4), x -> x.move(-1, -4), Edge.ARGUMENT);
        Edge.refused("tell, no row and no sum", () -> Edge.busy(2, 3), x -> x.tell(true, 2, 9), Edge.INDEX);
        Edge.refused("tell, no column and no sum", () -> Edge.busy(2, 3), x -> x.tell(false, 3, -2), Edge.INDEX);
        Edge.refused("fix, no row and not so", () -> Edge.busy(2, 3), x -> x.fix(2, 0, 2), Edge.INDEX);
        Edge.refused("fix, no column and not so", () -> Edge.busy(2, 3), x -> x.fix(0, -1, -2), Edge.INDEX);
        Edge.refused("tell, a row but no sum", () -> Edge.busy(2, 3), x -> x.tell(true, 1, 9), Edge.ARGUMENT);
        Edge.refused("fix, a cell but not so", () -> Edge.busy(2, 3), x -> x.fix(1, 2, 2), Edge.ARGUMENT);
        Edge.refused("move, far but out of the sheet", () -> Edge.full(2, 2), x -> x.move(3, 1), Edge.STATE);
    }

    private static void calls() {
        Edge.of("What it is", "An object is used for at most 512 calls after it has been made");
        Twoshadows called = new Twoshadows();
        for (int turn = 1; turn <= 512; turn++) {
            Edge.same("call " + turn, called.call(), turn);
        }
        Twoshadows mixed = Edge.drawn("#...", ".#..", "..#.", "...#");
        Twoshadows told = new Twoshadows();
        Twoshadows digested = Edge.laid(4, 4);
        long first = digested.digest();
        for (int turn = 1; turn <= 480; turn++) {
            Edge.same("mix " + turn, mixed.mix(50), 50);
            Edge.same("tell " + turn, told.tell(true, 2, turn % 4), turn == 1 ? -1 : (turn - 1) % 4);
            Edge.same("digest " + turn, digested.digest(), first);
        }
        // 480 times 50 steps are 93 times all 256 numbers, and 192 steps
        int luck = 31;
        for (int step = 0; step < 192; step++) {
            luck = (45 * luck + 29) % 256;
        }
        Edge.same("luck", mixed.figure(12), luck);
        Edge.same("the sums stay", Edge.sums(mixed, true, false) + Edge.sums(mixed, false, false), "11111111");
        Edge.same("what fits", told.many(), 64);
    }
}
