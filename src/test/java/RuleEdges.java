import java.util.function.Function;

/** The edges of the great rule and of the flow: promises 17 and 18, and what of promise 27 hangs on them. */
final class RuleEdges {
    private RuleEdges() {
    }

    static void run() {
        allTold();
        together();
        greatestColumns();
        rule();
        flow();
        flowNotTold();
        wrong();
        sound();
    }

    private static Twoshadows told(int[] rowSums, int... columnSums) {
        Twoshadows x = Edge.laid(rowSums.length, columnSums.length);
        Edge.tell(x, true, rowSums);
        Edge.tell(x, false, columnSums);
        return x;
    }

    private static int[] rows(int... sums) {
        return sums;
    }

    /** Asks of each sheet with all told as the full figure has them, and then with each line in turn not told. */
    private static void allButOne(Function<Twoshadows, Object> asked, Object ofAll, Object ofFewer) {
        Edge.eachSheet((rows, columns) -> {
            Twoshadows x = Edge.full(rows, columns);
            x.take();
            for (int line = 0; line < rows + columns; line++) {
                boolean isRow = line < rows;
                int number = isRow ? line : line - rows;
                String what = Edge.size(rows, columns) + (isRow ? " row " : " column ") + number;
                int sum = x.tell(isRow, number, Edge.NONE);
                Edge.same(what + " not told", asked.apply(x), ofFewer);
                x.tell(isRow, number, sum);
                Edge.same(what + " told again", asked.apply(x), ofAll);
            }
        });
    }

    private static void allTold() {
        Edge.of("2. What is told", "The GREAT RULE: all SUMS are TOLD");
        allButOne(x -> x.rule(), true, false);
        Edge.eachSheet((rows, columns) -> {
            Twoshadows x = Edge.laid(rows, columns);
            String size = Edge.size(rows, columns);
            Edge.same(size + " nothing told", x.rule(), false);
            Edge.tellAll(x, true, 0);
            Edge.same(size + " rows told", x.rule(), false);
            Edge.tellAll(x, false, 0);
            Edge.same(size + " all told as nothing", x.rule(), true);
            Edge.tellAll(x, true, Edge.NONE);
            Edge.same(size + " columns told", x.rule(), false);
        });
    }

    private static void together() {
        Edge.of("2. What is told", "those of the rows together are those of the columns together");
        Edge.same("one more by columns", told(rows(1, 1, 0), 1, 1, 1).rule(), false);
        Edge.same("one more by rows", told(rows(1, 1, 1), 1, 1, 0).rule(), false);
        Edge.same("the same", told(rows(1, 1, 1), 1, 1, 1).rule(), true);
        Edge.same("all full but a column", told(rows(4, 4, 4, 4), 4, 4, 4, 3).rule(), false);
        Edge.same("all full but a row", told(rows(3, 4, 4, 4), 4, 4, 4, 4).rule(), false);
        Edge.same("one cell by its row", told(rows(1), 0).rule(), false);
        Edge.same("one cell by its column", told(rows(0), 1).rule(), false);
        Edge.same("one cell by both", told(rows(1), 1).rule(), true);
    }

    private static void greatestColumns() {
        Edge.of("2. What is told", "for each k the k greatest SUMS of columns together are no more than what comes");
        Edge.same("too much for k of 1 alone", told(rows(2, 2, 2, 0), 4, 1, 1, 0).rule(), false);
        Edge.same("just as much for k of 1", told(rows(2, 2, 2, 0), 3, 2, 1, 0).rule(), true);
        Edge.same("too much for k of 2 alone", told(rows(3, 3, 1, 1), 4, 3, 1, 0).rule(), false);
        Edge.same("just as much for k of 2", told(rows(3, 3, 1, 1), 4, 2, 2, 0).rule(), true);
        Edge.same("too much for k of 3 alone", told(rows(4, 2, 2, 2), 4, 3, 3, 0).rule(), false);
        Edge.same("just as much for k of 3", told(rows(4, 2, 2, 2), 4, 3, 2, 1).rule(), true);
        Edge.same("just as much for k of 4", told(rows(4, 4, 4, 3), 4, 4, 4, 3).rule(), true);
        Edge.same("the greatest ones last, too much", told(rows(3, 3, 1, 1), 0, 1, 3, 4).rule(), false);
        Edge.same("the greatest ones apart, too much", told(rows(1, 3, 1, 3), 3, 0, 1, 4).rule(), false);
        Edge.same("the greatest ones last, just as much", told(rows(1, 1, 3, 3), 0, 2, 2, 4).rule(), true);
        Edge.same("two columns, too much", told(rows(2, 1, 0), 3, 0).rule(), false);
        Edge.same("two rows, too much", told(rows(4, 0), 2, 1, 1, 0).rule(), false);
        Edge.same("two rows, too much for the last column", told(rows(4, 0), 0, 1, 1, 2).rule(), false);
        Edge.same("three rows, too much for the last column", told(rows(2, 2, 0), 0, 1, 0, 3).rule(), false);
        Edge.same("four rows, too much for the last column", told(rows(2, 2, 0, 0), 1, 3).rule(), false);
        Edge.same("two rows, just as much", told(rows(4, 0), 1, 1, 1, 1).rule(), true);
        Edge.same("one row", told(rows(2), 0, 1, 0, 1).rule(), true);
        Edge.same("one column", told(rows(1, 0, 1, 1), 3).rule(), true);
        Edge.of("2. What is told", "if for each row the smaller one of k and its SUM is added");
        Edge.same("rows of less than k", told(rows(1, 1, 1, 3), 3, 3, 0, 0).rule(), false);
        Edge.same("rows of k", told(rows(2, 2, 2, 0), 3, 3, 0, 0).rule(), true);
        Edge.same("rows of more than k", told(rows(3, 3, 0, 0), 3, 3, 0, 0).rule(), false);
    }

    private static void rule() {
        Edge.of("Promise 17", "Returns whether the GREAT RULE holds");
        Edge.eachSheet((rows, columns) -> {
            Twoshadows x = Edge.busy(rows, columns);
            x.take();
            Edge.same(Edge.size(rows, columns) + " taken", x.rule(), true);
            Edge.fixAll(x, 0);
            Edge.same(Edge.size(rows, columns) + " whatever is fixed", x.rule(), true);
        });
        Edge.of("Promise 17", "what can be (nothing is changed)");
        Edge.eachSheet((rows, columns) -> {
            Twoshadows x = Edge.busy(rows, columns);
            String first = Edge.asked(x);
            x.far(0);
            x.odds(0, 0);
            Edge.same(Edge.size(rows, columns) + " asked again", Edge.asked(x), first);
            Edge.same(Edge.size(rows, columns) + " all", Edge.wholeState(x), Edge.wholeState(Edge.busy(rows, columns)));
        });
    }

    private static void flow() {
        Edge.of("2. What is told", "if no row and no column has more than its SUM");
        Edge.eachSheet((rows, columns) -> {
            Twoshadows x = Edge.full(rows, columns);
            String size = Edge.size(rows, columns);
            x.take();
            Edge.same(size + " full", x.flow(false), rows * columns);
            x.tell(true, 0, 0);
            Edge.same(size + " one row without cells", x.flow(false), (rows - 1) * columns);
            x.tell(false, 0, 0);
            Edge.same(size + " one column too", x.flow(false), (rows - 1) * (columns - 1));
            Edge.tellAll(x, true, 0);
            Edge.same(size + " no row has cells", x.flow(false), 0);
            Edge.tellAll(x, true, columns);
            Edge.tellAll(x, false, 0);
            Edge.same(size + " no column has cells", x.flow(false), 0);
        });
        Edge.same("by the rows", told(rows(1, 1, 0), 3, 3, 3).flow(false), 2);
        Edge.same("by the columns", told(rows(3, 3, 3), 0, 2, 1).flow(false), 3);
        Edge.same("by both", told(rows(2, 2, 2, 0), 4, 1, 1, 0).flow(false), 5);
        Edge.same("by the second cut", told(rows(3, 3, 1, 1), 4, 3, 1, 0).flow(false), 7);
        Edge.same("by the third cut", told(rows(4, 2, 2, 2), 4, 3, 3, 0).flow(false), 9);
        Edge.same("one row and one column", told(rows(4, 0, 0, 0), 4, 0, 0, 0).flow(false), 1);
        Edge.same("two rows and two columns", told(rows(4, 4, 0, 0), 0, 4, 0, 4).flow(false), 4);
        Edge.same("three rows and three columns", told(rows(4, 0, 4, 4), 4, 4, 0, 4).flow(false), 9);
    }

    private static void flowNotTold() {
        Edge.of("2. What is told", "(a SUM that is not TOLD does not matter, nor what is FIXED)");
        Edge.eachSheet((rows, columns) -> {
            Twoshadows x = Edge.laid(rows, columns);
            String size = Edge.size(rows, columns);
            Edge.same(size + " nothing told", x.flow(false), rows * columns);
            Edge.fixAll(x, 0);
            Edge.same(size + " all fixed as empty", x.flow(false), rows * columns);
            x.tell(true, rows - 1, 0);
            Edge.same(size + " one row told", x.flow(false), (rows - 1) * columns);
            x.tell(false, columns - 1, 0);
            Edge.same(size + " one column told, too", x.flow(false), (rows - 1) * (columns - 1));
            Edge.fixAll(x, 1);
            Edge.same(size + " all fixed as full", x.flow(false), (rows - 1) * (columns - 1));
            Twoshadows full = Edge.full(rows, columns);
            full.tell(false, 0, 0);
            Edge.same(size + " whatever the figure is", full.flow(false), rows * (columns - 1));
        });
        Edge.of("Promise 18", "whether WRONG (NONE), otherwise the FLOW");
        Twoshadows x = told(rows(2, 1), 1, 1, 2);
        Edge.same("flow", x.flow(false), 3);
        Edge.same("wrong", x.flow(true), 1);
        x.tell(true, 0, Edge.NONE);
        Edge.same("flow, not all told", x.flow(false), 4);
        Edge.same("none, not all told", x.flow(true), -1);
        Edge.of("Promise 18", "Returns that");
        Edge.same("the most flow", Edge.laid(4, 4).flow(false), 16);
        Edge.same("the least flow", told(rows(0), 0).flow(false), 0);
        Edge.same("the most wrong", told(rows(4, 4, 4, 4), 0, 0, 0, 0).flow(true), 16);
    }

    private static void wrong() {
        Edge.of("2. What is told", "WRONG: all SUMS together (of rows and columns), less twice the FLOW");
        Edge.eachSheet((rows, columns) -> {
            Twoshadows x = Edge.full(rows, columns);
            String size = Edge.size(rows, columns);
            x.take();
            Edge.same(size + " full", x.flow(true), 0);
            Edge.tellAll(x, true, 0);
            Edge.same(size + " columns alone", x.flow(true), rows * columns);
            Edge.tellAll(x, false, 0);
            Edge.same(size + " nothing", x.flow(true), 0);
            Edge.tellAll(x, true, columns);
            Edge.same(size + " rows alone", x.flow(true), rows * columns);
        });
        Edge.same("odd", told(rows(1, 1, 1), 1, 1, 0).flow(true), 1);
        Edge.same("the same together, by the first cut", told(rows(2, 2, 2, 0), 4, 1, 1, 0).flow(true), 2);
        Edge.same("the same together, by the second cut", told(rows(3, 3, 1, 1), 4, 3, 1, 0).flow(true), 2);
        Edge.same("the same together, by the third cut", told(rows(4, 2, 2, 2), 4, 3, 3, 0).flow(true), 2);
        Edge.same("one row and one column", told(rows(4, 0, 0, 0), 4, 0, 0, 0).flow(true), 6);
        Twoshadows fixed = told(rows(1, 1), 1, 1);
        Edge.fixAll(fixed, 0);
        Edge.same("whatever is fixed", fixed.flow(true), 0);
        Edge.of("2. What is told", "NONE, if not all are TOLD");
        allButOne(x -> x.flow(true), 0, -1);
        Edge.eachSheet((rows, columns) -> {
            Twoshadows x = Edge.laid(rows, columns);
            Edge.same(Edge.size(rows, columns) + " nothing told", x.flow(true), -1);
            Edge.tellAll(x, false, 0);
            Edge.same(Edge.size(rows, columns) + " columns told", x.flow(true), -1);
        });
    }

    private static void sound() {
        Edge.of("Promise 27", "and nothing is FIXED, some FIGURE FITS just if the GREAT RULE holds");
        Twoshadows x = told(rows(2, 2, 2, 0), 4, 1, 1, 0);
        Edge.same("the rule does not hold", x.isSound(), true);
        Edge.same("and none fits", x.many(), 0);
        x.tell(false, 0, 3);
        x.tell(false, 3, 1);
        Edge.same("the rule holds", x.isSound(), true);
        Edge.same("and some fit", x.many() > 0, true);
        Edge.fixAll(x, 0);
        Edge.same("none fits, as all is fixed", x.isSound(), true);
        Edge.same("though the rule holds", x.rule(), true);
        x.tell(true, 0, Edge.NONE);
        Edge.same("not all told", x.isSound(), true);
        Edge.eachSheet((rows, columns) -> {
            Twoshadows full = Edge.full(rows, columns);
            full.take();
            full.fix(rows - 1, columns - 1, 0);
            Edge.same(Edge.size(rows, columns) + " one fixed", full.isSound(), true);
            Edge.same(Edge.size(rows, columns) + " one fixed, none fits", full.many(), 0);
            full.fix(rows - 1, columns - 1, 1);
            Edge.same(Edge.size(rows, columns) + " one fixed, one fits", full.isSound(), true);
        });
        Edge.of("Promise 27", "and then all that FIT are in the NET of the first one");
        Twoshadows most = told(rows(2, 2, 2, 2), 2, 2, 2, 2);
        Edge.same("ninety", most.isSound(), true);
        Edge.same("the figure that was there stays", most.figure(3), 0);
        most.find(0);
        Edge.same("the net of the first one", most.net(), most.many());
        Edge.of("Promise 27", "WRONG is 0 just if the GREAT RULE holds");
        Edge.same("wrong is none", Edge.laid(4, 4).isSound(), true);
        Edge.same("wrong is 0", told(rows(0, 0), 0, 0).isSound(), true);
        Edge.same("wrong is 16", told(rows(4, 4, 4, 4), 0, 0, 0, 0).isSound(), true);
        Edge.of("Promise 27", "the SUMS of rows of the FIGURE together are its FULL CELLS");
        Edge.eachSheet((rows, columns) -> {
            Edge.same(Edge.size(rows, columns) + " empty", Edge.laid(rows, columns).isSound(), true);
            Edge.same(Edge.size(rows, columns) + " full", Edge.full(rows, columns).isSound(), true);
            Edge.same(Edge.size(rows, columns) + " busy", Edge.busy(rows, columns).isSound(), true);
        });
    }
}
