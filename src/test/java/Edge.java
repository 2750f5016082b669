import java.io.IOException;
import java.util.function.Function;
import java.util.function.Supplier;

/** What the tests of the edges share: the clause under test, figures to start from, and calls that are refused. */
final class Edge {
    static final int NONE = -1;
    static final int LEAST = Integer.MIN_VALUE;
    static final int GREATEST = Integer.MAX_VALUE;
    static final String INDEX = "throws.IndexOutOfBoundsException";
    static final String ARGUMENT = "throws.IllegalArgumentException";
    static final String STATE = "throws.IllegalStateException";

    private static Document document;
    private static String clause = "";

    private Edge() {
    }

    /** A test for each sheet that there can be. */
    interface OfSheet {
        void at(int rows, int columns);
    }

    static void readDocument() throws IOException {
        document = new Document();
    }

    static void checkAllQuoted() {
        document.checkAllQuoted();
    }

    /** The checks that follow test this clause of the document. */
    static void of(String heading, String quoted) {
        clause = heading + ", \"" + quoted + "\": ";
        document.quote(heading, quoted);
    }

    static void same(String what, Object got, Object due) {
        Check.same(clause + what, got, due);
    }

    /** The call throws just that, and changes nothing: neither what was asked before nor what was not. */
    static void refused(String what, Supplier<Twoshadows> made, Function<Twoshadows, Object> call, String due) {
        Twoshadows untouched = made.get();
        Twoshadows called = made.get();
        Twoshadows askedBefore = made.get();
        asked(askedBefore);
        same(what, Check.answer(() -> call.apply(called)), due);
        same(what + ", asked before", Check.answer(() -> call.apply(askedBefore)), due);
        String state = wholeState(untouched);
        same(what + ", state", wholeState(called), state);
        same(what + ", state asked before", wholeState(askedBefore), state);
    }

    static void eachSheet(OfSheet test) {
        for (int rows = 1; rows <= 4; rows++) {
            for (int columns = 1; columns <= 4; columns++) {
                test.at(rows, columns);
            }
        }
    }

    static String size(int rows, int columns) {
        return rows + " by " + columns;
    }

    static Twoshadows laid(int rows, int columns) {
        Twoshadows x = new Twoshadows();
        x.lay(rows, columns);
        return x;
    }

    static Twoshadows full(int rows, int columns) {
        Twoshadows x = laid(rows, columns);
        for (int row = 0; row < rows; row++) {
            for (int column = 0; column < columns; column++) {
                x.cell(row, column, true);
            }
        }
        return x;
    }

    /** A sheet with the figure that the rows draw, "#" for full. */
    static Twoshadows drawn(String... rows) {
        Twoshadows x = laid(rows.length, rows[0].length());
        for (int row = 0; row < rows.length; row++) {
            for (int column = 0; column < rows[row].length(); column++) {
                if (rows[row].charAt(column) == '#') {
                    x.cell(row, column, true);
                }
            }
        }
        return x;
    }

    /** A sheet on which there is something of everything that can be changed. */
    static Twoshadows busy(int rows, int columns) {
        Twoshadows x = drawn("#.", ".#");
        x.mix(3);
        x.lay(rows, columns);
        for (int row = 0; row < rows; row++) {
            for (int column = 0; column < columns; column++) {
                x.cell(row, column, (row + column) % 2 == 0);
            }
        }
        x.take();
        x.tell(true, 0, NONE);
        x.fix(rows - 1, columns - 1, 0);
        x.fix(0, 0, 1);
        x.call();
        return x;
    }

    /** The sums, of rows or of columns, from the first on. */
    static void tell(Twoshadows x, boolean isRow, int... sums) {
        for (int number = 0; number < sums.length; number++) {
            x.tell(isRow, number, sums[number]);
        }
    }

    static void tellAll(Twoshadows x, boolean isRow, int sum) {
        int lines = lines(x, isRow);
        for (int number = 0; number < lines; number++) {
            x.tell(isRow, number, sum);
        }
    }

    static void fixAll(Twoshadows x, int what) {
        int rows = lines(x, true);
        int columns = lines(x, false);
        for (int row = 0; row < rows; row++) {
            for (int column = 0; column < columns; column++) {
                x.fix(row, column, what);
            }
        }
    }

    static int lines(Twoshadows x, boolean isRow) {
        return x.figure(isRow ? 0 : 1);
    }

    static String told(Twoshadows x) {
        return sums(x, true, true) + "/" + sums(x, false, true);
    }

    static String sums(Twoshadows x, boolean isRow, boolean isTold) {
        StringBuilder text = new StringBuilder();
        int lines = lines(x, isRow);
        for (int number = 0; number < lines; number++) {
            int sum = x.sum(isRow, number, isTold);
            text.append(sum == NONE ? "?" : "" + sum);
        }
        return text.toString();
    }

    static String slants(Twoshadows x, boolean isDown) {
        StringBuilder text = new StringBuilder();
        int slants = lines(x, true) + lines(x, false) - 1;
        for (int number = 0; number < slants; number++) {
            text.append(x.slant(isDown, number));
        }
        return text.toString();
    }

    /** What is sure of the cells, those of the first row first: "?" if no figure fits. */
    static String sure(Twoshadows x) {
        StringBuilder text = new StringBuilder();
        int rows = lines(x, true);
        int columns = lines(x, false);
        for (int row = 0; row < rows; row++) {
            for (int column = 0; column < columns; column++) {
                int sure = x.sure(row, column);
                text.append(sure == NONE ? "?" : "" + sure);
            }
        }
        return text.toString();
    }

    static String figures(Twoshadows x) {
        StringBuilder text = new StringBuilder();
        for (int what = 0; what <= 13; what++) {
            text.append(x.figure(what)).append(' ');
        }
        return text.toString();
    }

    /** All that can be asked. */
    static String asked(Twoshadows x) {
        StringBuilder text = new StringBuilder(figures(x));
        text.append(told(x)).append(' ').append(sums(x, true, false)).append('/').append(sums(x, false, false));
        text.append(' ').append(slants(x, true)).append('/').append(slants(x, false)).append(' ').append(x.rule());
        text.append(' ').append(x.flow(false)).append(' ').append(x.flow(true)).append(' ').append(x.many());
        text.append(' ').append(x.nth(0)).append(' ').append(x.nth(Math.max(0, x.many() - 1)));
        text.append(' ').append(sure(x)).append(' ').append(x.net()).append(' ').append(x.joined());
        text.append(' ').append(x.best(true)).append(' ').append(x.best(false)).append(' ').append(x.isSound());
        return text.append(' ').append(x.digest()).toString();
    }

    /** All that can be asked, and besides what is fixed, which is sure to be seen only if nothing is told. */
    static String wholeState(Twoshadows x) {
        String asked = asked(x);
        tellAll(x, true, NONE);
        tellAll(x, false, NONE);
        return asked + " fixed " + sure(x);
    }
}
