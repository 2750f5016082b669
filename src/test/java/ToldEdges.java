/** The edges of what is told and fixed, and of the figures that fit: promises 8 to 11 and 19 to 22. */
final class ToldEdges {
    private ToldEdges() {
    }

    static void run() {
        atFirst();
        fits();
        fitsOfEachSheet();
        tell();
        tellOutside();
        take();
        fix();
        fixOutside();
        find();
        findOutside();
        many();
        nth();
        sure();
        odds();
        askedAnew();
    }

    private static void atFirst() {
        Edge.of("2. What is told", "A SUM is TOLD for a row or a column, or not (at first)");
        Edge.eachSheet((rows, columns) -> {
            Twoshadows x = Edge.laid(rows, columns);
            String size = Edge.size(rows, columns);
            Edge.same(size, Edge.told(x), "?".repeat(rows) + "/" + "?".repeat(columns));
            Edge.same(size + " how many", x.figure(11), 0);
            x.tell(true, rows - 1, 0);
            Edge.same(size + " one row", Edge.told(x), "?".repeat(rows - 1) + "0/" + "?".repeat(columns));
            x.tell(false, columns - 1, 0);
            Edge.same(size + " a column too", x.figure(11), 2);
        });
        Edge.of("2. What is told", "A CELL is FIXED as EMPTY (0), as FULL (1), or not (at first)");
        Edge.eachSheet((rows, columns) -> {
            Twoshadows x = Edge.laid(rows, columns);
            String size = Edge.size(rows, columns);
            Edge.same(size + " how many", x.figure(10), 0);
            Edge.same(size + " none", Edge.sure(x), "2".repeat(rows * columns));
            x.fix(rows - 1, columns - 1, 0);
            Edge.same(size + " as empty", Edge.sure(x), "2".repeat(rows * columns - 1) + "0");
            x.fix(rows - 1, columns - 1, 1);
            Edge.same(size + " as full", Edge.sure(x), "2".repeat(rows * columns - 1) + "1");
        });
        Edge.of("2. What is told", "the FIGURE does not change by that");
        Twoshadows full = Edge.full(4, 4);
        Edge.fixAll(full, 0);
        Edge.same("full, all fixed as empty", full.figure(3), 65535);
        Twoshadows empty = Edge.laid(4, 4);
        Edge.fixAll(empty, 1);
        Edge.same("empty, all fixed as full", empty.figure(3), 0);
        Edge.fixAll(empty, Edge.NONE);
        Edge.same("empty, all freed", empty.figure(3), 0);
    }

    private static void fits() {
        Edge.of("2. What is told", "if it has all SUMS that are TOLD, and all CELLS as they are FIXED");
        Twoshadows x = Edge.laid(2, 2);
        fitting(x, "nothing told, nothing fixed", 16, 0, 1, 2, 3, 4, 5, 6, 7, 8, 9, 10, 11, 12, 13, 14, 15);
        x.tell(true, 0, 1);
        fitting(x, "one row", 8, 1, 2, 5, 6, 9, 10, 13, 14);
        x.tell(false, 1, 2);
        fitting(x, "one column too", 2, 10, 14);
        x.fix(1, 0, 0);
        fitting(x, "a cell that is empty", 1, 10);
        x.fix(1, 0, 1);
        fitting(x, "a cell that is full", 1, 14);
        x.fix(0, 1, 0);
        fitting(x, "a cell that can't be empty", 0);
        x.fix(0, 1, 1);
        x.tell(true, 0, 0);
        fitting(x, "a sum that can't be", 0);
        x.tell(true, 0, Edge.NONE);
        x.tell(false, 1, Edge.NONE);
        fitting(x, "cells alone", 4, 6, 7, 14, 15);
    }

    private static void fitting(Twoshadows x, String what, int many, int... codes) {
        Edge.same(what + ", how many", x.many(), many);
        for (int nth = 0; nth < codes.length; nth++) {
            Edge.same(what + ", " + nth, x.nth(nth), codes[nth]);
        }
        Edge.same(what + ", behind the last", x.nth(many), -1);
    }

    private static void fitsOfEachSheet() {
        Edge.eachSheet((rows, columns) -> {
            int all = (1 << (rows * columns)) - 1;
            String size = Edge.size(rows, columns);
            Twoshadows x = Edge.laid(rows, columns);
            Edge.tellAll(x, true, 0);
            fitting(x, size + " rows without cells", 1, 0);
            Edge.tellAll(x, true, columns);
            fitting(x, size + " full rows", 1, all);
            Edge.tellAll(x, false, rows);
            fitting(x, size + " all lines full", 1, all);
            Edge.tellAll(x, false, rows - 1);
            fitting(x, size + " columns less than full", 0);
            Edge.tellAll(x, true, Edge.NONE);
            Edge.tellAll(x, false, 0);
            fitting(x, size + " columns without cells", 1, 0);
            Edge.fixAll(x, 0);
            fitting(x, size + " all fixed as empty too", 1, 0);
            x.fix(rows - 1, columns - 1, 1);
            fitting(x, size + " the last one as full", 0);
            x.fix(rows - 1, columns - 1, 0);
            x.fix(0, 0, 1);
            fitting(x, size + " the first one as full", 0);
            Edge.tellAll(x, false, Edge.NONE);
            fitting(x, size + " all fixed, nothing told", 1, 1);
            Edge.fixAll(x, 1);
            fitting(x, size + " all fixed as full", 1, all);
        });
    }

    private static void tell() {
        Edge.of("Promise 8", "TELLS a SUM, or takes that back");
        Twoshadows x = Edge.drawn("#..", "##.");
        x.tell(true, 1, 3);
        Edge.same("tells", Edge.told(x), "?3/???");
        Edge.same("the figure stays", x.figure(3), 1 | 3 << 3);
        x.tell(true, 1, Edge.NONE);
        Edge.same("takes back", Edge.told(x), "??/???");
        Edge.of("Promise 8", "whether of a row, otherwise of a column");
        x.tell(true, 0, 2);
        x.tell(false, 0, 1);
        Edge.same("the row and the column of one number", Edge.told(x), "2?/1??");
        Edge.of("Promise 8", "`number`: which one");
        x.tell(true, 1, 0);
        x.tell(false, 2, 0);
        Edge.same("the last ones", Edge.told(x), "20/1?0");
        Edge.of("Promise 8", "NONE: not TOLD from now on");
        x.tell(false, 0, Edge.NONE);
        Edge.same("other sums stay", Edge.told(x), "20/??0");
        Edge.same("how many", x.figure(11), 3);
        Edge.of("Promise 8", "Returns what was TOLD before (NONE)");
        Edge.eachSheet((rows, columns) -> {
            for (boolean isRow : new boolean[] {true, false}) {
                int number = (isRow ? rows : columns) - 1;
                int length = isRow ? columns : rows;
                Twoshadows y = Edge.laid(rows, columns);
                Edge.same("nothing", y.tell(isRow, number, length), -1);
                Edge.same("the greatest", y.tell(isRow, number, 0), length);
                Edge.same("the least", y.tell(isRow, number, Edge.NONE), 0);
                Edge.same("taken back", y.tell(isRow, number, Edge.NONE), -1);
            }
        });
    }

    private static void tellOutside() {
        Edge.of("Promise 8", "if there is no such row, or column");
        Edge.eachSheet((rows, columns) -> {
            for (int wrong : new int[] {-1, rows, Edge.LEAST, Edge.GREATEST}) {
                Edge.refused(Edge.size(rows, columns) + " row " + wrong, () -> Edge.busy(rows, columns),
                    x -> x.tell(true, wrong, 1), Edge.INDEX);
            }
            for (int wrong : new int[] {-1, columns, Edge.LEAST, Edge.GREATEST}) {
                Edge.refused(Edge.size(rows, columns) + " column " + wrong, () -> Edge.busy(rows, columns),
                    x -> x.tell(false, wrong, 0), Edge.INDEX);
            }
        });
        Edge.of("Promise 8", "if sum is not NONE to as many CELLS as it has");
        Edge.eachSheet((rows, columns) -> {
            for (int wrong : new int[] {-2, columns + 1, Edge.LEAST, Edge.GREATEST}) {
                Edge.refused(Edge.size(rows, columns) + " row of " + wrong, () -> Edge.busy(rows, columns),
                    x -> x.tell(true, rows - 1, wrong), Edge.ARGUMENT);
            }
            for (int wrong : new int[] {-2, rows + 1, Edge.LEAST, Edge.GREATEST}) {
                Edge.refused(Edge.size(rows, columns) + " column of " + wrong, () -> Edge.busy(rows, columns),
                    x -> x.tell(false, columns - 1, wrong), Edge.ARGUMENT);
            }
        });
    }

    private static void take() {
        Edge.of("Promise 9", "TELLS all SUMS as the FIGURE has them");
        Edge.eachSheet((rows, columns) -> {
            Twoshadows x = Edge.laid(rows, columns);
            String size = Edge.size(rows, columns);
            x.take();
            Edge.same(size + " empty", Edge.told(x), "0".repeat(rows) + "/" + "0".repeat(columns));
            Edge.same(size + " how many are told", x.figure(11), rows + columns);
            Twoshadows full = Edge.full(rows, columns);
            full.tell(true, 0, 0);
            full.take();
            String due = ("" + columns).repeat(rows) + "/" + ("" + rows).repeat(columns);
            Edge.same(size + " full", Edge.told(full), due);
            full.cell(0, 0, false);
            Edge.same(size + " told stays", Edge.told(full), due);
        });
        Twoshadows fixed = Edge.drawn("##.", "..#");
        fixed.fix(0, 0, 0);
        fixed.take();
        Edge.same("fixed stays", fixed.figure(10), 1);
        Edge.same("whatever is fixed", Edge.told(fixed), "21/111");
        Edge.of("Promise 9", "Returns how many CELLS of it are FULL");
        Edge.eachSheet((rows, columns) -> {
            Edge.same(Edge.size(rows, columns) + " empty", Edge.laid(rows, columns).take(), 0);
            Edge.same(Edge.size(rows, columns) + " full", Edge.full(rows, columns).take(), rows * columns);
        });
    }

    private static void fix() {
        Edge.of("Promise 10", "FIXES a CELL, or frees it");
        Twoshadows x = Edge.laid(2, 3);
        x.fix(0, 1, 1);
        Edge.same("fixes", Edge.sure(x), "212222");
        x.fix(0, 1, Edge.NONE);
        Edge.same("frees", Edge.sure(x), "222222");
        Edge.of("Promise 10", "`what`: 0 EMPTY, 1 FULL, NONE not FIXED from now on");
        x.fix(0, 0, 0);
        Edge.same("empty", Edge.sure(x), "022222");
        x.fix(0, 0, 1);
        Edge.same("full instead", Edge.sure(x), "122222");
        x.fix(0, 0, 0);
        Edge.same("empty again", Edge.sure(x), "022222");
        x.fix(0, 0, Edge.NONE);
        Edge.same("not fixed", Edge.sure(x), "222222");
        Edge.of("Promise 10", "Returns how many CELLS are FIXED then");
        Edge.eachSheet((rows, columns) -> {
            Twoshadows y = Edge.laid(rows, columns);
            int due = 0;
            for (int row = 0; row < rows; row++) {
                for (int column = 0; column < columns; column++) {
                    due++;
                    Edge.same("one more", y.fix(row, column, due % 2), due);
                    Edge.same("the other way", y.fix(row, column, 1 - due % 2), due);
                    Edge.same("the same way", y.fix(row, column, 1 - due % 2), due);
                }
            }
            Edge.same("one less", y.fix(rows - 1, columns - 1, Edge.NONE), due - 1);
            Edge.same("free already", y.fix(rows - 1, columns - 1, Edge.NONE), due - 1);
        });
        Edge.same("free at first", Edge.laid(1, 1).fix(0, 0, Edge.NONE), 0);
    }

    private static void fixOutside() {
        Edge.of("Promise 10", "`row`: the row");
        Edge.same("last row", Edge.laid(4, 1).fix(3, 0, 1), 1);
        Edge.of("Promise 10", "`column`: the column");
        Edge.same("last column", Edge.laid(1, 4).fix(0, 3, 1), 1);
        Edge.of("Promise 10", "if there is no such CELL");
        Edge.eachSheet((rows, columns) -> {
            for (int what : new int[] {Edge.NONE, 0, 1}) {
                for (int wrong : new int[] {-1, rows, Edge.LEAST, Edge.GREATEST}) {
                    Edge.refused(Edge.size(rows, columns) + " row " + wrong, () -> Edge.busy(rows, columns),
                        x -> x.fix(wrong, columns - 1, what), Edge.INDEX);
                }
                for (int wrong : new int[] {-1, columns, Edge.LEAST, Edge.GREATEST}) {
                    Edge.refused(Edge.size(rows, columns) + " column " + wrong, () -> Edge.busy(rows, columns),
                        x -> x.fix(0, wrong, what), Edge.INDEX);
                }
            }
        });
        Edge.of("Promise 10", "if what is not NONE to 1");
        for (int wrong : new int[] {-2, 2, 3, Edge.LEAST, Edge.GREATEST}) {
            Edge.refused("a fixed cell, " + wrong, () -> Edge.busy(2, 3), x -> x.fix(0, 0, wrong), Edge.ARGUMENT);
            Edge.refused("a free cell, " + wrong, () -> Edge.busy(2, 3), x -> x.fix(0, 1, wrong), Edge.ARGUMENT);
        }
    }

    private static void find() {
        Edge.of("Promise 11", "The FIGURE becomes one that FITS");
        Twoshadows x = Edge.drawn("#.", ".#");
        x.take();
        x.fix(0, 1, 1);
        x.find(0);
        Edge.same("figure", x.figure(3), 6);
        Edge.same("told stays", Edge.told(x), "11/11");
        Edge.same("fixed stays", x.figure(10), 1);
        Edge.of("Promise 11", "which one, by rising CODES, from 0 on");
        Edge.same("one cell, the first", Edge.laid(1, 1).find(0), 0);
        Edge.same("one cell, the last", Edge.laid(1, 1).find(1), 1);
        Twoshadows four = Edge.laid(4, 4);
        for (int nth : new int[] {0, 1, 2, 255, 256, 4095, 4096, 32767, 32768, 65534, 65535}) {
            Edge.same("nothing told, " + nth, four.find(nth), nth);
        }
        Edge.of("Promise 11", "Returns its CODE");
        Twoshadows y = Edge.drawn("#..", ".#.");
        y.take();
        int[] due = {10, 17};
        for (int nth = 0; nth < due.length; nth++) {
            Edge.same("taken, " + nth, y.find(nth), due[nth]);
            Edge.same("taken, later", y.figure(3), due[nth]);
        }
    }

    private static void findOutside() {
        Edge.of("Promise 11", "if there are not so many, or nth is below 0");
        for (int wrong : new int[] {-1, 2, 3, Edge.LEAST, Edge.GREATEST}) {
            Edge.refused("of two, " + wrong, ToldEdges::ofTwo, x -> x.find(wrong), Edge.STATE);
        }
        for (int wrong : new int[] {-1, 65536, Edge.LEAST, Edge.GREATEST}) {
            Edge.refused("of all, " + wrong, () -> Edge.laid(4, 4), x -> x.find(wrong), Edge.STATE);
        }
        for (int wrong : new int[] {-1, 0, 1, Edge.LEAST, Edge.GREATEST}) {
            Edge.refused("of none, " + wrong, ToldEdges::ofNone, x -> x.find(wrong), Edge.STATE);
        }
        Edge.eachSheet((rows, columns) -> Edge.refused(Edge.size(rows, columns) + " of all",
            () -> Edge.full(rows, columns), x -> x.find(1 << (rows * columns)), Edge.STATE));
    }

    private static Twoshadows ofTwo() {
        Twoshadows x = Edge.drawn("#.", ".#");
        x.take();
        return x;
    }

    private static Twoshadows ofNone() {
        Twoshadows x = Edge.drawn("#.", ".#");
        x.tell(true, 0, 0);
        x.fix(0, 0, 1);
        return x;
    }

    private static void many() {
        Edge.of("Promise 19", "Returns how many FIGURES FIT");
        Edge.eachSheet((rows, columns) -> {
            Twoshadows x = Edge.laid(rows, columns);
            Edge.same(Edge.size(rows, columns) + " all", x.many(), 1 << (rows * columns));
            Edge.fixAll(x, 0);
            Edge.same(Edge.size(rows, columns) + " all fixed", x.many(), 1);
            x.tell(true, 0, 1);
            Edge.same(Edge.size(rows, columns) + " none", x.many(), 0);
        });
        Twoshadows x = Edge.laid(4, 4);
        Edge.tellAll(x, true, 2);
        Edge.same("all rows told", x.many(), 6 * 6 * 6 * 6);
        Edge.tellAll(x, false, 2);
        Edge.same("all told", x.many(), 90);
        x.tell(false, 3, Edge.NONE);
        Edge.same("all but one told", x.many(), 90);
        Edge.same("the figure stays", x.figure(3), 0);
    }

    private static void nth() {
        Edge.of("Description", "X by X is by rising numbers");
        Twoshadows rising = new Twoshadows();
        for (int nth = 0; nth < 512; nth++) {
            Edge.same("nothing told, " + nth, rising.nth(nth), nth);
        }
        Edge.of("Promise 20", "which one of those that FIT, by rising CODES, from 0 on");
        Twoshadows x = Edge.laid(3, 2);
        Edge.tell(x, true, 1, 1, 1);
        fitting(x, "one in each row", 8, 21, 22, 25, 26, 37, 38, 41, 42);
        Edge.of("Promise 20", "NONE, if there are not so many");
        Edge.same("behind the last", x.nth(8), -1);
        Edge.same("far behind", x.nth(Edge.GREATEST), -1);
        Edge.same("the last of all", Edge.laid(4, 4).nth(65535), 65535);
        Edge.same("behind all", Edge.laid(4, 4).nth(65536), -1);
        Edge.same("of none", ofNone().nth(0), -1);
        Twoshadows fewer = Edge.laid(4, 4);
        fewer.many();
        fewer.tell(true, 0, 4);
        Edge.same("the last of fewer than before", fewer.nth(4095), 65535);
        Edge.same("behind fewer than before", fewer.nth(4096), -1);
        Edge.of("Promise 20", "if nth is below 0");
        for (int wrong : new int[] {-1, -2, Edge.LEAST}) {
            Edge.refused("of two, " + wrong, ToldEdges::ofTwo, y -> y.nth(wrong), Edge.ARGUMENT);
            Edge.refused("of none, " + wrong, ToldEdges::ofNone, y -> y.nth(wrong), Edge.ARGUMENT);
        }
    }

    private static void sure() {
        Edge.of("2. What is told", "if it is the same in all FIGURES that FIT (and there is one)");
        Twoshadows one = Edge.drawn("##", "#.");
        one.take();
        Edge.same("just one", Edge.sure(one), "1110");
        Edge.same("two", Edge.sure(ofTwo()), "2222");
        Edge.same("none", Edge.sure(ofNone()), "????");
        Edge.of("Promise 21", "1 if it is FULL in all FIGURES that FIT, 0 if it is EMPTY in all, 2 if it is not SURE");
        Twoshadows x = Edge.laid(2, 3);
        x.tell(true, 0, 3);
        x.tell(false, 0, 1);
        Edge.same("full, empty and not sure", Edge.sure(x), "111022");
        Twoshadows allButOne = Edge.laid(1, 2);
        Edge.same("full in half", allButOne.sure(0, 1), 2);
        allButOne.tell(true, 0, 2);
        Edge.same("full in the only one", allButOne.sure(0, 1), 1);
        allButOne.tell(true, 0, 0);
        Edge.same("empty in the only one", allButOne.sure(0, 1), 0);
        Edge.of("Promise 21", "NONE if no FIGURE FITS");
        Twoshadows none = Edge.full(4, 4);
        Edge.tellAll(none, true, 0);
        Edge.tellAll(none, false, 4);
        Edge.same("cells of none", Edge.sure(none), "?".repeat(16));
        Edge.of("Promise 21", "`row`: the row");
        Edge.same("last row", Edge.laid(4, 1).sure(3, 0), 2);
        Edge.of("Promise 21", "`column`: the column");
        Edge.same("last column", Edge.laid(1, 4).sure(0, 3), 2);
        Edge.of("Promise 21", "if there is no such CELL");
        outside(true);
    }

    private static void outside(boolean isSure) {
        Edge.eachSheet((rows, columns) -> {
            for (int wrong : new int[] {-1, rows, Edge.LEAST, Edge.GREATEST}) {
                Edge.refused(Edge.size(rows, columns) + " row " + wrong, () -> Edge.busy(rows, columns),
                    x -> isSure ? x.sure(wrong, columns - 1) : x.odds(wrong, columns - 1), Edge.INDEX);
            }
            for (int wrong : new int[] {-1, columns, Edge.LEAST, Edge.GREATEST}) {
                Edge.refused(Edge.size(rows, columns) + " column " + wrong, () -> Edge.busy(rows, columns),
                    x -> isSure ? x.sure(0, wrong) : x.odds(0, wrong), Edge.INDEX);
            }
        });
        Edge.refused("none fits", ToldEdges::ofNone, x -> isSure ? x.sure(2, 0) : x.odds(2, 0), Edge.INDEX);
    }

    private static void odds() {
        Edge.of("Promise 22", "(0.0 if none FITS)");
        Twoshadows none = ofNone();
        for (int cell = 0; cell < 4; cell++) {
            Edge.same("cell " + cell, none.odds(cell / 2, cell % 2), 0.0);
        }
        Edge.of("Promise 22", "the part of all FIGURES that FIT in which it is FULL, as a double");
        Edge.eachSheet((rows, columns) -> {
            Twoshadows x = Edge.laid(rows, columns);
            String size = Edge.size(rows, columns);
            Edge.same(size + " half", x.odds(rows - 1, columns - 1), 0.5);
            Edge.fixAll(x, 1);
            Edge.same(size + " all", x.odds(rows - 1, columns - 1), 1.0);
            Edge.fixAll(x, 0);
            Edge.same(size + " none", x.odds(rows - 1, columns - 1), 0.0);
        });
        for (int sum = 0; sum <= 4; sum++) {
            Twoshadows x = Edge.laid(2, 4);
            x.tell(true, 1, sum);
            Edge.same("row of " + sum, x.odds(1, 3), sum / 4.0);
        }
        for (int sum = 0; sum <= 3; sum++) {
            Twoshadows x = Edge.laid(3, 2);
            x.tell(false, 0, sum);
            Edge.same("column of " + sum, x.odds(2, 0), sum / 3.0);
        }
        Edge.of("Promise 22", "`row`: the row");
        Edge.same("last row", Edge.laid(4, 1).odds(3, 0), 0.5);
        Edge.of("Promise 22", "`column`: the column");
        Edge.same("last column", Edge.laid(1, 4).odds(0, 3), 0.5);
        Edge.of("Promise 22", "if there is no such CELL");
        outside(false);
    }

    /** What fits is asked before and after each call that can change it. */
    private static void askedAnew() {
        Edge.of("2. What is told", "all SUMS that are TOLD, and all CELLS as they are FIXED");
        Twoshadows x = Edge.drawn("#.", ".#");
        Edge.same("at first", x.many(), 16);
        x.take();
        Edge.same("behind take", x.many(), 2);
        x.fix(0, 0, 1);
        Edge.same("behind fix", x.many(), 1);
        x.tell(true, 0, 2);
        Edge.same("behind tell", x.many(), 0);
        x.tell(true, 0, Edge.NONE);
        Edge.same("behind tell of none", x.many(), 1);
        x.fix(0, 0, Edge.NONE);
        x.find(0);
        Edge.same("behind find", x.many(), 2);
        x.cell(0, 0, true);
        Edge.same("behind cell", x.many(), 2);
        x.lay(2, 2);
        Edge.same("behind lay", x.many(), 16);
    }
}
