import java.util.HashMap;
import java.util.Map;

/** All figures of the sheets, and all sums that can be told on small ones, against the plain model. */
public final class AllFiguresTest {
    private AllFiguresTest() {
    }

    public static void main(String[] args) {
        for (int rows = 1; rows <= 4; rows++) {
            for (int columns = 1; columns <= 4; columns++) {
                allFigures(rows, columns);
            }
        }
        allSums(2, 3);
        allSums(3, 2);
        allSums(3, 3);
        allSums(1, 4);
        allSums(4, 1);
        allFixed(2, 2);
        allFixed(2, 3);
        Check.end("AllFiguresTest");
    }

    private static void draw(Twoshadows mine, Model due, int code) {
        for (int r = 0; r < due.rows(); r++) {
            for (int c = 0; c < due.columns(); c++) {
                boolean isFull = (code >>> (r * due.columns() + c) & 1) == 1;
                if (due.full[r][c] != isFull) {
                    mine.cell(r, c, isFull);
                    due.cell(r, c, isFull);
                }
            }
        }
    }

    private static String sums(Model due) {
        StringBuilder text = new StringBuilder();
        for (int r = 0; r < due.rows(); r++) {
            text.append(Model.rowSum(due.full, r));
        }
        for (int c = 0; c < due.columns(); c++) {
            text.append(Model.columnSum(due.full, c));
        }
        return text.toString();
    }

    private static void allFigures(int rows, int columns) {
        Twoshadows mine = new Twoshadows();
        Model due = new Model();
        mine.lay(rows, columns);
        due.lay(rows, columns);
        int all = 1 << (rows * columns);
        String[] shadows = new String[all];
        int[] nets = new int[all];
        Map<String, Integer> same = new HashMap<>();
        for (int code = 0; code < all; code++) {
            draw(mine, due, code);
            String sheet = rows + " x " + columns + " code " + code;
            for (int what = 2; what <= 9; what++) {
                Check.same(sheet + " figure(" + what + ")", mine.figure(what), due.figure(what));
            }
            for (int number = 0; number < rows + columns - 1; number++) {
                Check.same(sheet + " down " + number, mine.slant(true, number), due.slant(true, number));
                Check.same(sheet + " up " + number, mine.slant(false, number), due.slant(false, number));
            }
            shadows[code] = sums(due);
            nets[code] = mine.net();
            same.merge(shadows[code], 1, Integer::sum);
            if (code % 97 == 0) {
                Check.same(sheet + " joined", mine.joined(), due.joined());
            }
        }
        for (int code = 0; code < all; code++) {
            Check.same(rows + " x " + columns + " code " + code + " net", nets[code], same.get(shadows[code]));
        }
    }

    private static void allSums(int rows, int columns) {
        Twoshadows mine = new Twoshadows();
        Model due = new Model();
        mine.lay(rows, columns);
        due.lay(rows, columns);
        tellFrom(mine, due, 0);
    }

    private static void tellFrom(Twoshadows mine, Model due, int line) {
        boolean isRow = line < due.rows();
        int number = isRow ? line : line - due.rows();
        if (!isRow && number == due.columns()) {
            compareTold(mine, due);
            return;
        }
        for (int sum = -1; sum <= (isRow ? due.columns() : due.rows()); sum++) {
            mine.tell(isRow, number, sum);
            due.tell(isRow, number, sum);
            tellFrom(mine, due, line + 1);
        }
    }

    private static void compareTold(Twoshadows mine, Model due) {
        String told = java.util.Arrays.toString(due.rowTold) + java.util.Arrays.toString(due.columnTold);
        Check.same(told + " rule", mine.rule(), due.rule());
        Check.same(told + " flow", mine.flow(false), due.flow(false));
        Check.same(told + " wrong", mine.flow(true), due.flow(true));
        Check.same(told + " sound", mine.isSound(), true);
        Check.same(told + " many", mine.many(), due.many());
    }

    private static void allFixed(int rows, int columns) {
        Twoshadows mine = new Twoshadows();
        Model due = new Model();
        mine.lay(rows, columns);
        due.lay(rows, columns);
        mine.tell(true, 0, 1);
        due.tell(true, 0, 1);
        fixFrom(mine, due, 0);
    }

    private static void fixFrom(Twoshadows mine, Model due, int cell) {
        if (cell == due.rows() * due.columns()) {
            Check.same("fixed digest", mine.digest(), due.digest());
            return;
        }
        for (int what = -1; what <= 1; what++) {
            int row = cell / due.columns();
            int column = cell % due.columns();
            Check.same("fix", mine.fix(row, column, what), due.fix(row, column, what));
            fixFrom(mine, due, cell + 1);
        }
    }
}
