/** The edges of sheets and of the figures on them: promises 1 to 5, and 13 as far as it tells their shapes. */
final class SheetEdges {
    private SheetEdges() {
    }

    static void run() {
        sizes();
        codes();
        sums();
        slants();
        pieces();
        holes();
        borders();
        even();
        newObject();
        lay();
        layForgets();
        cell();
        move();
        moveOutside();
        over();
    }

    private static void sizes() {
        Edge.of("1. Sheets and figures", "1 to 4 each");
        Edge.eachSheet((rows, columns) -> {
            Twoshadows x = Edge.laid(rows, columns);
            String size = Edge.size(rows, columns);
            Edge.same(size, Edge.size(x.figure(0), x.figure(1)), size);
            Edge.same(size + " last cell", x.cell(rows - 1, columns - 1, true), 1 << (rows * columns - 1));
            Edge.same(size + " row behind", Check.answer(() -> x.cell(rows, 0, true)), Edge.INDEX);
            Edge.same(size + " column behind", Check.answer(() -> x.cell(0, columns, true)), Edge.INDEX);
        });
        Edge.of("1. Sheets and figures", "3 and 3 at first");
        Twoshadows x = new Twoshadows();
        Edge.same("rows", x.figure(0), 3);
        Edge.same("columns", x.figure(1), 3);
        Edge.same("last cell", x.cell(2, 2, true), 256);
        Edge.of("1. Sheets and figures", "its CELLS are EMPTY at first");
        Edge.same("code", new Twoshadows().figure(3), 0);
        Edge.eachSheet((rows, columns) -> Edge.same(Edge.size(rows, columns), Edge.laid(rows, columns).figure(3), 0));
    }

    private static void codes() {
        Edge.of("1. Sheets and figures", "the CODE of a FIGURE is the sum of 2^(row * COLUMNS + column) of these");
        Edge.eachSheet((rows, columns) -> {
            for (int row = 0; row < rows; row++) {
                for (int column = 0; column < columns; column++) {
                    Twoshadows x = Edge.laid(rows, columns);
                    int due = (int) Math.pow(2, row * columns + column);
                    Edge.same(Edge.size(rows, columns) + " one cell", x.cell(row, column, true), due);
                    Edge.same(Edge.size(rows, columns) + " one cell later", x.figure(3), due);
                }
            }
            int all = (int) Math.pow(2, rows * columns) - 1;
            Edge.same(Edge.size(rows, columns) + " full", Edge.full(rows, columns).figure(3), all);
        });
        Edge.same("the greatest", Edge.full(4, 4).figure(3), 65535);
    }

    private static void sums() {
        Edge.of("1. Sheets and figures", "how many of its CELLS are FULL");
        Edge.eachSheet((rows, columns) -> {
            Twoshadows empty = Edge.laid(rows, columns);
            Twoshadows full = Edge.full(rows, columns);
            String size = Edge.size(rows, columns);
            Edge.same(size + " empty rows", Edge.sums(empty, true, false), "0".repeat(rows));
            Edge.same(size + " empty columns", Edge.sums(empty, false, false), "0".repeat(columns));
            Edge.same(size + " full rows", Edge.sums(full, true, false), ("" + columns).repeat(rows));
            Edge.same(size + " full columns", Edge.sums(full, false, false), ("" + rows).repeat(columns));
            Edge.same(size + " full cells of none", empty.figure(2), 0);
            Edge.same(size + " full cells of all", full.figure(2), rows * columns);
        });
        Twoshadows x = Edge.drawn("#..#", "...#", "....");
        Edge.same("rows", Edge.sums(x, true, false), "210");
        Edge.same("columns", Edge.sums(x, false, false), "1002");
    }

    private static void slants() {
        Edge.of("1. Sheets and figures", "column - row, and ROWS - 1 more (so from 0 on)");
        eachCellInSlant(true);
        Twoshadows x = Edge.drawn("..", "..", "#.");
        Edge.same("the first one is at the last row", x.slant(true, 0), 1);
        Edge.same("the last one is at the last column", Edge.drawn("...#", "....").slant(true, 4), 1);
        Edge.of("1. Sheets and figures", "those that go UP by row + column");
        eachCellInSlant(false);
        Edge.same("the first one is at the first cell", Edge.drawn("#..", "...").slant(false, 0), 1);
        Edge.same("the last one is at the last cell", Edge.drawn("....", "...#").slant(false, 4), 1);
        Edge.of("1. Sheets and figures", "the SUM of a SLANT likewise");
        for (boolean isDown : new boolean[] {true, false}) {
            Edge.same("one cell", Edge.slants(Edge.full(1, 1), isDown), "1");
            Edge.same("no cell", Edge.slants(Edge.laid(1, 1), isDown), "0");
            Edge.same("one row", Edge.slants(Edge.full(1, 4), isDown), "1111");
            Edge.same("one column", Edge.slants(Edge.full(4, 1), isDown), "1111");
            Edge.same("2 by 4", Edge.slants(Edge.full(2, 4), isDown), "12221");
            Edge.same("full", Edge.slants(Edge.full(4, 4), isDown), "1234321");
            Edge.same("empty", Edge.slants(Edge.laid(4, 4), isDown), "0000000");
        }
    }

    private static void eachCellInSlant(boolean isDown) {
        Edge.eachSheet((rows, columns) -> {
            for (int row = 0; row < rows; row++) {
                for (int column = 0; column < columns; column++) {
                    Twoshadows x = Edge.laid(rows, columns);
                    x.cell(row, column, true);
                    int due = isDown ? column - row + rows - 1 : row + column;
                    String zeros = "0".repeat(rows + columns - 1);
                    Edge.same(Edge.size(rows, columns) + " cell " + row + " " + column, Edge.slants(x, isDown),
                        zeros.substring(0, due) + "1" + zeros.substring(due + 1));
                }
            }
        });
    }

    private static void pieces() {
        Edge.of("1. Sheets and figures", "parts of the FIGURE that hang together by sides of CELLS");
        Edge.eachSheet((rows, columns) -> {
            Edge.same(Edge.size(rows, columns) + " empty", Edge.laid(rows, columns).figure(4), 0);
            Edge.same(Edge.size(rows, columns) + " full", Edge.full(rows, columns).figure(4), 1);
        });
        Edge.same("one cell", Edge.drawn("...", ".#.", "...").figure(4), 1);
        Edge.same("by a corner down", Edge.drawn("#.", ".#").figure(4), 2);
        Edge.same("by a corner up", Edge.drawn(".#", "#.").figure(4), 2);
        Edge.same("by a side across", Edge.drawn("##", "..").figure(4), 1);
        Edge.same("by a side down", Edge.drawn(".#", ".#").figure(4), 1);
        Edge.same("the end of a row and the start of the next", Edge.drawn("..#", "#..").figure(4), 2);
        Edge.same("the end of a row and the start of the one behind", Edge.drawn("...#", "....", "#...").figure(4), 2);
        Edge.same("the most", Edge.drawn("#.#.", ".#.#", "#.#.", ".#.#").figure(4), 8);
        Edge.same("a snake by rows", Edge.drawn("####", "...#", "####", "#...").figure(4), 1);
        Edge.same("a snake by columns", Edge.drawn("##.#", ".#.#", ".#.#", ".###").figure(4), 1);
        Edge.same("a snake that turns in", Edge.drawn("####", "...#", "##.#", "####").figure(4), 1);
        Edge.same("two arms that go down", Edge.drawn("####", "#..#").figure(4), 1);
        Edge.same("two arms that go up", Edge.drawn("#..#", "####").figure(4), 1);
        Edge.same("a long arm that goes up", Edge.drawn("#.", "#.", "##", ".#").figure(4), 1);
        Edge.same("two long arms that go up", Edge.drawn("#.#", "#.#", "#.#", "###").figure(4), 1);
        Edge.same("two wide arms that go up", Edge.drawn("#..#", "#..#", "####").figure(4), 1);
        Edge.same("an arm that goes left", Edge.drawn("..#", "###").figure(4), 1);
        Edge.same("a ring that is open", Edge.drawn("####", "#..#", "#.##").figure(4), 1);
        Edge.same("a part and a cell in the last corner", Edge.drawn("###.", "###.", "##..", "...#").figure(4), 2);
    }

    private static void holes() {
        Edge.of("1. Sheets and figures", "parts of EMPTY CELLS that hang together by sides");
        Edge.same("one cell", Edge.drawn("###", "#.#", "###").figure(5), 1);
        Edge.same("two by a side", Edge.drawn("####", "#..#", "####").figure(5), 1);
        Edge.same("two by a corner", Edge.drawn("####", "#.##", "##.#", "####").figure(5), 2);
        Edge.same("four cells", Edge.drawn("####", "#..#", "#..#", "####").figure(5), 1);
        Edge.same("three cells", Edge.drawn("####", "#..#", "##.#", "####").figure(5), 1);
        Edge.same("corners hold nothing together", Edge.drawn(".#.", "#.#", ".#.").figure(5), 1);
        Edge.of("1. Sheets and figures", "of which none lies at the border of the SHEET");
        Edge.eachSheet((rows, columns) -> {
            Edge.same(Edge.size(rows, columns) + " empty", Edge.laid(rows, columns).figure(5), 0);
            Edge.same(Edge.size(rows, columns) + " full", Edge.full(rows, columns).figure(5), 0);
        });
        Edge.same("at the first row", Edge.drawn("#.#", "#.#", "###").figure(5), 0);
        Edge.same("at the last row", Edge.drawn("###", "#.#", "#.#").figure(5), 0);
        Edge.same("at the first column", Edge.drawn("###", "..#", "###").figure(5), 0);
        Edge.same("at the last column", Edge.drawn("###", "#..", "###").figure(5), 0);
        Edge.same("only at the first row", Edge.drawn("#.#", "###", "###").figure(5), 0);
        Edge.same("only at the last row", Edge.drawn("###", "###", "#.#").figure(5), 0);
        Edge.same("only at the first column", Edge.drawn("###", ".##", "###").figure(5), 0);
        Edge.same("only at the last column", Edge.drawn("###", "##.", "###").figure(5), 0);
        Edge.same("in two rows", Edge.drawn("#.##", "##.#").figure(5), 0);
        Edge.same("in one row", Edge.drawn("#.#").figure(5), 0);
        Edge.same("in two columns", Edge.drawn("##", ".#", "#.", "##").figure(5), 0);
        Edge.same("in one column", Edge.drawn("#", ".", "#").figure(5), 0);
        Edge.same("a hole and a part at the border", Edge.drawn("####", "#.##", "##..", "####").figure(5), 1);
    }

    private static void borders() {
        Edge.of("1. Sheets and figures", "how many sides of FULL CELLS have an EMPTY CELL behind them, or nothing");
        Edge.eachSheet((rows, columns) -> {
            String size = Edge.size(rows, columns);
            Edge.same(size + " empty", Edge.laid(rows, columns).figure(6), 0);
            Edge.same(size + " full", Edge.full(rows, columns).figure(6), 2 * (rows + columns));
            Twoshadows x = Edge.laid(rows, columns);
            x.cell(rows - 1, columns - 1, true);
            Edge.same(size + " last cell", x.figure(6), 4);
        });
        Edge.same("empty cells alone behind", Edge.drawn("...", ".#.", "...").figure(6), 4);
        Edge.same("a ring", Edge.drawn("###", "#.#", "###").figure(6), 16);
        Edge.same("the most", Edge.drawn("#.#.", ".#.#", "#.#.", ".#.#").figure(6), 32);
        Edge.same("the end of a row and the start of the next", Edge.drawn("..#", "#..").figure(6), 8);
        Edge.same("two across", Edge.drawn("##.", "...").figure(6), 6);
        Edge.same("two down", Edge.drawn("#..", "#..").figure(6), 6);
    }

    private static void even() {
        Edge.of("1. Sheets and figures", "none or one do, too");
        Edge.eachSheet((rows, columns) -> {
            String size = Edge.size(rows, columns);
            same2(size + " empty", Edge.laid(rows, columns), 1, 1);
            same2(size + " full", Edge.full(rows, columns), 1, 1);
            Twoshadows x = Edge.laid(rows, columns);
            x.cell(0, columns - 1, true);
            same2(size + " one", x, 1, 1);
        });
        same2("one in each", Edge.drawn("#..", "..#", ".#."), 1, 1);
        Edge.of("1. Sheets and figures", "A FIGURE is EVEN by rows, if in each row its FULL CELLS lie side by side");
        same2("a gap in the first row", Edge.drawn("#.#", "...", "..."), 0, 1);
        same2("a gap in the last row", Edge.drawn("...", "...", "#.#"), 0, 1);
        same2("a wide gap", Edge.drawn("#..#"), 0, 1);
        same2("a gap behind two", Edge.drawn("##.#"), 0, 1);
        same2("no gap to the next row", Edge.drawn("..##", "##.."), 1, 1);
        same2("a row that is full", Edge.drawn("####", "#..."), 1, 1);
        same2("a gap in the last of four short rows", Edge.drawn("...", "...", "...", "#.#"), 0, 1);
        same2("a gap in the last of two long rows", Edge.drawn("....", ".#.#"), 0, 1);
        Edge.of("1. Sheets and figures", "by columns likewise");
        same2("a gap in the first column", Edge.drawn("#..", "...", "#.."), 1, 0);
        same2("a gap in the last column", Edge.drawn("..#", "...", "..#"), 1, 0);
        same2("a wide gap", Edge.drawn("#", ".", ".", "#"), 1, 0);
        same2("a gap behind two", Edge.drawn("#", "#", ".", "#"), 1, 0);
        same2("a gap in the last of four short columns", Edge.drawn("...#", "....", "...#"), 1, 0);
        same2("a gap in the last of two long columns", Edge.drawn("..", ".#", "..", ".#"), 1, 0);
        same2("gaps both ways", Edge.drawn("###", "#.#", "###"), 0, 0);
    }

    private static void same2(String what, Twoshadows x, int byRows, int byColumns) {
        Edge.same(what + ", by rows", x.figure(7), byRows);
        Edge.same(what + ", by columns", x.figure(8), byColumns);
    }

    private static void newObject() {
        Edge.of("Promise 1", "Creates a SHEET of 3 rows and 3 columns");
        Twoshadows x = new Twoshadows();
        Edge.same("figure() of 0 to 13", Edge.figures(x), "3 3 0 0 0 0 0 1 1 0 0 0 31 0 ");
        Edge.same("told", Edge.told(x), "???/???");
        Edge.same("nothing is sure", Edge.sure(x), "222222222");
        Edge.same("rows", x.row(0) + x.row(1) + x.row(2), "... ?... ?... ?");
        Edge.same("no row 3", Check.answer(() -> x.row(3)), Edge.INDEX);
        Edge.same("as a sheet laid so", Edge.wholeState(new Twoshadows()), Edge.wholeState(Edge.laid(3, 3)));
    }

    private static void lay() {
        Edge.of("Promise 2", "Returns how many CELLS it has");
        Edge.eachSheet((rows, columns) -> Edge.same(Edge.size(rows, columns),
            new Twoshadows().lay(rows, columns), rows * columns));
        Edge.of("Promise 2", "`rows`: ROWS");
        Edge.same("one row", Edge.laid(1, 4).figure(0), 1);
        Edge.same("four rows", Edge.laid(4, 1).figure(0), 4);
        Edge.of("Promise 2", "`columns`: COLUMNS");
        Edge.same("four columns", Edge.laid(1, 4).figure(1), 4);
        Edge.same("one column", Edge.laid(4, 1).figure(1), 1);
        Edge.of("Promise 2", "if rows or columns is not 1 to 4");
        for (int wrong : new int[] {0, 5, -1, 6, Edge.LEAST, Edge.GREATEST}) {
            for (int right : new int[] {1, 4}) {
                Edge.refused("rows " + wrong, () -> Edge.busy(2, 3), x -> x.lay(wrong, right), Edge.ARGUMENT);
                Edge.refused("columns " + wrong, () -> Edge.busy(2, 3), x -> x.lay(right, wrong), Edge.ARGUMENT);
            }
            Edge.refused("both " + wrong, () -> Edge.busy(4, 4), x -> x.lay(wrong, wrong), Edge.ARGUMENT);
        }
    }

    private static void layForgets() {
        Edge.of("Promise 2", "A new SHEET: all CELLS are EMPTY, nothing is TOLD, nothing is FIXED");
        Edge.eachSheet((rows, columns) -> {
            String size = Edge.size(rows, columns);
            Twoshadows x = Edge.full(4, 4);
            x.take();
            Edge.fixAll(x, 1);
            Edge.same(size + " one before", x.many(), 1);
            x.lay(rows, columns);
            Edge.same(size + " figure() of 2 to 11", Edge.figures(x).substring(4), "0 0 0 0 0 1 1 0 0 0 31 0 ");
            Edge.same(size + " told", Edge.told(x), "?".repeat(rows) + "/" + "?".repeat(columns));
            Edge.same(size + " many", x.many(), 1 << (rows * columns));
            Edge.same(size + " sure", Edge.sure(x), "2".repeat(rows * columns));
        });
        Twoshadows again = Edge.full(4, 4);
        again.take();
        Edge.fixAll(again, 0);
        again.lay(1, 1);
        again.lay(4, 4);
        Edge.same("by way of the least sheet", Edge.wholeState(again), Edge.wholeState(Edge.laid(4, 4)));
        Edge.of("Promise 2", "(LUCK stays)");
        Twoshadows x = Edge.drawn("#.", ".#");
        x.mix(1);
        x.lay(2, 2);
        Edge.same("luck", x.figure(12), 144);
    }

    private static void cell() {
        Edge.of("Promise 3", "Fills a CELL, or makes it EMPTY");
        Twoshadows x = Edge.laid(2, 2);
        Edge.same("fills the first", x.cell(0, 0, true), 1);
        Edge.same("fills the last", x.cell(1, 1, true), 9);
        Edge.same("empties the first", x.cell(0, 0, false), 8);
        Edge.same("empties the last", x.cell(1, 1, false), 0);
        Edge.of("Promise 3", "whether it is FULL from now on");
        Edge.same("empty already", x.cell(1, 0, false), 0);
        Edge.same("fills", x.cell(1, 0, true), 4);
        Edge.same("full already", x.cell(1, 0, true), 4);
        Edge.of("Promise 3", "Returns CODE then");
        Edge.same("all but one full", Edge.full(4, 4).cell(3, 3, false), 32767);
        Edge.same("fixed otherwise", fixedEmpty().cell(0, 0, true), 1);
        cellOutside();
    }

    private static Twoshadows fixedEmpty() {
        Twoshadows x = Edge.laid(4, 4);
        Edge.fixAll(x, 0);
        return x;
    }

    private static void cellOutside() {
        Edge.of("Promise 3", "`row`: the row");
        Edge.same("last row", Edge.laid(4, 1).cell(3, 0, true), 8);
        Edge.of("Promise 3", "`column`: the column");
        Edge.same("last column", Edge.laid(1, 4).cell(0, 3, true), 8);
        Edge.of("Promise 3", "if there is no such CELL");
        Edge.eachSheet((rows, columns) -> {
            for (boolean isFull : new boolean[] {true, false}) {
                for (int wrong : new int[] {-1, rows, Edge.LEAST, Edge.GREATEST}) {
                    Edge.refused(Edge.size(rows, columns) + " row " + wrong, () -> Edge.busy(rows, columns),
                        x -> x.cell(wrong, columns - 1, isFull), Edge.INDEX);
                }
                for (int wrong : new int[] {-1, columns, Edge.LEAST, Edge.GREATEST}) {
                    Edge.refused(Edge.size(rows, columns) + " column " + wrong, () -> Edge.busy(rows, columns),
                        x -> x.cell(0, wrong, isFull), Edge.INDEX);
                }
            }
        });
    }

    private static void move() {
        Edge.of("Promise 4", "Moves the FIGURE");
        Twoshadows x = Edge.drawn("#..", "##.", "...");
        x.take();
        x.fix(0, 0, 1);
        Edge.same("code", x.move(1, 1), 1 << 4 | 1 << 7 | 1 << 8);
        Edge.same("figure", x.row(0) + x.row(1) + x.row(2), "... 1.#. 2.## 0");
        Edge.same("fixed stays", x.figure(10), 1);
        Edge.of("Promise 4", "(below 0: up)");
        Edge.same("up", x.move(-1, 0), 1 << 1 | 1 << 4 | 1 << 5);
        Edge.same("down", x.move(1, 0), 1 << 4 | 1 << 7 | 1 << 8);
        Edge.of("Promise 4", "(below 0: to the left)");
        Edge.same("left", x.move(0, -1), 1 << 3 | 1 << 6 | 1 << 7);
        Edge.same("right", x.move(0, 1), 1 << 4 | 1 << 7 | 1 << 8);
        Edge.of("Promise 4", "Returns CODE then");
        Twoshadows one = Edge.laid(4, 4);
        one.cell(0, 0, true);
        Edge.same("as far as can be", one.move(3, 3), 1 << 15);
        Edge.same("as far back", one.move(-3, -3), 1);
        Edge.same("right and down", one.move(0, 3), 8);
        Edge.same("down and left", one.move(3, -3), 1 << 12);
        Edge.same("up and right", one.move(-3, 3), 8);
        Edge.same("not at all", one.move(0, 0), 8);
        Edge.same("full, not at all", Edge.full(4, 4).move(0, 0), 65535);
    }

    private static void moveOutside() {
        Edge.of("Promise 4", "if down or right is not -3 to 3");
        for (int wrong : new int[] {-4, 4, -5, 5, Edge.LEAST, Edge.GREATEST}) {
            for (int other : new int[] {-3, 0, 3}) {
                Edge.refused("empty, down " + wrong, () -> Edge.laid(4, 4), x -> x.move(wrong, other), Edge.ARGUMENT);
                Edge.refused("empty, right " + wrong, () -> Edge.laid(4, 4), x -> x.move(other, wrong), Edge.ARGUMENT);
                Edge.refused("busy, down " + wrong, () -> Edge.busy(3, 4), x -> x.move(wrong, other), Edge.ARGUMENT);
                Edge.refused("busy, right " + wrong, () -> Edge.busy(3, 4), x -> x.move(other, wrong), Edge.ARGUMENT);
            }
        }
        Edge.eachSheet((rows, columns) -> {
            for (int far : new int[] {-3, 3}) {
                Edge.same(Edge.size(rows, columns) + " empty", Edge.laid(rows, columns).move(far, -far), 0);
            }
        });
        Edge.of("Promise 4", "if a FULL CELL would leave the SHEET");
        Edge.eachSheet((rows, columns) -> {
            for (int[] way : new int[][] {{1, 0}, {-1, 0}, {0, 1}, {0, -1}, {1, -1}, {-3, 3}, {3, 0}, {0, -3}}) {
                Edge.refused(Edge.size(rows, columns) + " by " + way[0] + " and " + way[1],
                    () -> Edge.full(rows, columns), x -> x.move(way[0], way[1]), Edge.STATE);
            }
        });
        Edge.refused("the last cell alone", () -> Edge.drawn("#..", "#.#"), x -> x.move(0, 1), Edge.STATE);
        Edge.refused("the first cell alone", () -> Edge.drawn("#..", ".##"), x -> x.move(0, -1), Edge.STATE);
        Edge.refused("not to the next row", () -> Edge.drawn("..#", "..."), x -> x.move(0, 1), Edge.STATE);
        Edge.refused("not to the row before", () -> Edge.drawn("...", "#.."), x -> x.move(0, -1), Edge.STATE);
        Edge.refused("down past the last row", () -> Edge.drawn("...", ".#."), x -> x.move(1, 0), Edge.STATE);
        Edge.refused("up past the first row", () -> Edge.drawn(".#.", "..."), x -> x.move(-1, 0), Edge.STATE);
        Edge.same("just to the last row", Edge.drawn(".#.", "...", "...").move(2, 0), 1 << 7);
        Edge.same("just to the first column", Edge.drawn("..#", "...").move(0, -2), 1);
    }

    private static void over() {
        Edge.of("Promise 5", "Turns the FIGURE over");
        Edge.eachSheet((rows, columns) -> {
            for (boolean isUp : new boolean[] {true, false}) {
                String size = Edge.size(rows, columns) + (isUp ? " up" : " across");
                Edge.same(size + " empty", Edge.laid(rows, columns).over(isUp), 0);
                Edge.same(size + " full", Edge.full(rows, columns).over(isUp), (1 << (rows * columns)) - 1);
                Twoshadows x = Edge.busy(rows, columns);
                String before = Edge.wholeState(Edge.busy(rows, columns));
                x.over(isUp);
                x.over(isUp);
                Edge.same(size + " twice", Edge.wholeState(x), before);
            }
        });
        Edge.of("Promise 5", "whether the first row changes places with the last one, and so on");
        Edge.same("one row", Edge.drawn("#.#.").over(true), 5);
        Edge.same("two rows", Edge.drawn("##", "#.").over(true), 1 | 3 << 2);
        Edge.same("three rows", Edge.drawn("##", "#.", "..").over(true), 1 << 2 | 3 << 4);
        Edge.same("four rows", Edge.drawn("##", "#.", ".#", "..").over(true), 2 << 2 | 1 << 4 | 3 << 6);
        Edge.of("Promise 5", "otherwise columns likewise");
        Edge.same("one column", Edge.drawn("#", ".", "#", ".").over(false), 5);
        Edge.same("two columns", Edge.drawn("##", "#.").over(false), 3 | 2 << 2);
        Edge.same("three columns", Edge.drawn("##.", "#..").over(false), 6 | 4 << 3);
        Edge.same("four columns", Edge.drawn("#...", ".#..").over(false), 8 | 4 << 4);
        Edge.of("Promise 5", "Returns CODE then");
        Twoshadows x = Edge.drawn("#..", "...");
        x.take();
        x.fix(1, 2, 0);
        Edge.same("up", x.over(true), 8);
        Edge.same("across", x.over(false), 32);
        Edge.same("told stays", Edge.told(x), "10/100");
        Edge.same("fixed stays", x.figure(10), 1);
        Edge.same("code later", x.figure(3), 32);
    }
}
