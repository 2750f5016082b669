import java.util.ArrayDeque;
import java.util.ArrayList;
import java.util.Arrays;
import java.util.HashMap;
import java.util.LinkedHashMap;
import java.util.List;
import java.util.Map;

/** The document once more, as slow and plain as it can be, to compare answers with. */
final class Model {
    static final int NONE = -1;

    boolean[][] full;
    int[][] fixed;
    int[] rowTold;
    int[] columnTold;
    int luck = 31;
    int refused;

    Model() {
        lay(3, 3);
    }

    int rows() {
        return full.length;
    }

    int columns() {
        return full[0].length;
    }

    static boolean[][] read(int code, int rows, int columns) {
        boolean[][] cells = new boolean[rows][columns];
        for (int r = 0; r < rows; r++) {
            for (int c = 0; c < columns; c++) {
                cells[r][c] = (code / (1 << (r * columns + c))) % 2 == 1;
            }
        }
        return cells;
    }

    static int codeOf(boolean[][] cells) {
        int code = 0;
        int worth = 1;
        for (boolean[] row : cells) {
            for (boolean isFull : row) {
                code += isFull ? worth : 0;
                worth *= 2;
            }
        }
        return code;
    }

    boolean has(int row, int column) {
        return row >= 0 && row < rows() && column >= 0 && column < columns();
    }

    void needCell(int row, int column) {
        if (!has(row, column)) {
            throw new IndexOutOfBoundsException();
        }
    }

    void needLine(boolean isRow, int number) {
        if (number < 0 || number >= (isRow ? rows() : columns())) {
            throw new IndexOutOfBoundsException();
        }
    }

    static void need(boolean isGood) {
        if (!isGood) {
            throw new IllegalArgumentException();
        }
    }

    int lay(int rows, int columns) {
        need(rows >= 1 && rows <= 4 && columns >= 1 && columns <= 4);
        full = new boolean[rows][columns];
        fixed = new int[rows][columns];
        for (int[] line : fixed) {
            Arrays.fill(line, NONE);
        }
        rowTold = new int[rows];
        columnTold = new int[columns];
        Arrays.fill(rowTold, NONE);
        Arrays.fill(columnTold, NONE);
        return rows * columns;
    }

    int cell(int row, int column, boolean isFull) {
        needCell(row, column);
        full[row][column] = isFull;
        return codeOf(full);
    }

    int move(int down, int right) {
        need(Math.abs((long) down) <= 3 && Math.abs((long) right) <= 3);
        boolean[][] moved = new boolean[rows()][columns()];
        for (int r = 0; r < rows(); r++) {
            for (int c = 0; c < columns(); c++) {
                if (full[r][c]) {
                    if (!has(r + down, c + right)) {
                        throw new IllegalStateException();
                    }
                    moved[r + down][c + right] = true;
                }
            }
        }
        full = moved;
        return codeOf(full);
    }

    int over(boolean isUp) {
        boolean[][] turned = new boolean[rows()][columns()];
        for (int r = 0; r < rows(); r++) {
            for (int c = 0; c < columns(); c++) {
                turned[r][c] = isUp ? full[rows() - 1 - r][c] : full[r][columns() - 1 - c];
            }
        }
        full = turned;
        return codeOf(full);
    }

    static List<boolean[][]> switches(boolean[][] of) {
        List<boolean[][]> found = new ArrayList<>();
        for (int r = 0; r < of.length; r++) {
            for (int s = r + 1; s < of.length; s++) {
                for (int c = 0; c < of[0].length; c++) {
                    for (int d = c + 1; d < of[0].length; d++) {
                        if (of[r][c] == of[s][d] && of[r][d] == of[s][c] && of[r][c] != of[r][d]) {
                            boolean[][] made = new boolean[of.length][];
                            for (int i = 0; i < of.length; i++) {
                                made[i] = of[i].clone();
                            }
                            made[r][c] = !of[r][c];
                            made[s][d] = !of[s][d];
                            made[r][d] = !of[r][d];
                            made[s][c] = !of[s][c];
                            found.add(made);
                        }
                    }
                }
            }
        }
        return found;
    }

    int make(int which) {
        List<boolean[][]> found = switches(full);
        if (which < 0 || which >= found.size()) {
            throw new IndexOutOfBoundsException();
        }
        full = found.get(which);
        return parts(full, true).size();
    }

    int mix(int steps) {
        need(steps >= 1 && steps <= 50);
        int made = 0;
        for (int i = 0; i < steps; i++) {
            List<boolean[][]> found = switches(full);
            if (!found.isEmpty()) {
                luck = (45 * luck + 29) % 256;
                full = found.get(luck % found.size());
                made++;
            }
        }
        return made;
    }

    int tell(boolean isRow, int number, int sum) {
        needLine(isRow, number);
        need(sum >= NONE && sum <= (isRow ? columns() : rows()));
        int[] line = isRow ? rowTold : columnTold;
        int before = line[number];
        line[number] = sum;
        return before;
    }

    int take() {
        for (int r = 0; r < rows(); r++) {
            rowTold[r] = rowSum(full, r);
        }
        for (int c = 0; c < columns(); c++) {
            columnTold[c] = columnSum(full, c);
        }
        return fullCells(full);
    }

    int fix(int row, int column, int what) {
        needCell(row, column);
        need(what >= NONE && what <= 1);
        fixed[row][column] = what;
        return countFixed();
    }

    int find(int nth) {
        List<Integer> fits = fits();
        if (nth < 0 || nth >= fits.size()) {
            throw new IllegalStateException();
        }
        full = read(fits.get(nth), rows(), columns());
        return fits.get(nth);
    }

    int call() {
        return ++refused;
    }

    static int rowSum(boolean[][] of, int row) {
        int sum = 0;
        for (boolean isFull : of[row]) {
            sum += isFull ? 1 : 0;
        }
        return sum;
    }

    static int columnSum(boolean[][] of, int column) {
        int sum = 0;
        for (boolean[] row : of) {
            sum += row[column] ? 1 : 0;
        }
        return sum;
    }

    static int slantSum(boolean[][] of, boolean isDown, int number) {
        int sum = 0;
        for (int r = 0; r < of.length; r++) {
            for (int c = 0; c < of[0].length; c++) {
                int slant = isDown ? c - r + of.length - 1 : r + c;
                sum += slant == number && of[r][c] ? 1 : 0;
            }
        }
        return sum;
    }

    static int fullCells(boolean[][] of) {
        int sum = 0;
        for (int r = 0; r < of.length; r++) {
            sum += rowSum(of, r);
        }
        return sum;
    }

    int countFixed() {
        int count = 0;
        for (int[] line : fixed) {
            for (int what : line) {
                count += what == NONE ? 0 : 1;
            }
        }
        return count;
    }

    int countTold() {
        int count = 0;
        for (int sum : rowTold) {
            count += sum == NONE ? 0 : 1;
        }
        for (int sum : columnTold) {
            count += sum == NONE ? 0 : 1;
        }
        return count;
    }

    boolean allTold() {
        return countTold() == rows() + columns();
    }

    /** The parts of full (or empty) cells that hang together by sides; each a list of {row, column}. */
    static List<List<int[]>> parts(boolean[][] of, boolean ofFull) {
        int rows = of.length;
        int columns = of[0].length;
        boolean[][] seen = new boolean[rows][columns];
        List<List<int[]>> parts = new ArrayList<>();
        for (int r = 0; r < rows; r++) {
            for (int c = 0; c < columns; c++) {
                if (of[r][c] == ofFull && !seen[r][c]) {
                    List<int[]> part = new ArrayList<>();
                    grow(of, ofFull, r, c, seen, part);
                    parts.add(part);
                }
            }
        }
        return parts;
    }

    private static void grow(boolean[][] of, boolean ofFull, int r, int c, boolean[][] seen, List<int[]> part) {
        if (r < 0 || c < 0 || r >= of.length || c >= of[0].length || seen[r][c] || of[r][c] != ofFull) {
            return;
        }
        seen[r][c] = true;
        part.add(new int[] {r, c});
        grow(of, ofFull, r - 1, c, seen, part);
        grow(of, ofFull, r + 1, c, seen, part);
        grow(of, ofFull, r, c - 1, seen, part);
        grow(of, ofFull, r, c + 1, seen, part);
    }

    static int holes(boolean[][] of) {
        int holes = 0;
        for (List<int[]> part : parts(of, false)) {
            boolean atBorder = false;
            for (int[] cell : part) {
                atBorder |= cell[0] == 0 || cell[1] == 0 || cell[0] == of.length - 1 || cell[1] == of[0].length - 1;
            }
            holes += atBorder ? 0 : 1;
        }
        return holes;
    }

    static int border(boolean[][] of) {
        int[][] ways = {{-1, 0}, {1, 0}, {0, -1}, {0, 1}};
        int border = 0;
        for (int r = 0; r < of.length; r++) {
            for (int c = 0; c < of[0].length; c++) {
                for (int[] way : ways) {
                    int s = r + way[0];
                    int d = c + way[1];
                    boolean isFullBehind = s >= 0 && d >= 0 && s < of.length && d < of[0].length && of[s][d];
                    border += of[r][c] && !isFullBehind ? 1 : 0;
                }
            }
        }
        return border;
    }

    static boolean isEven(boolean[][] of, boolean byRows) {
        int lines = byRows ? of.length : of[0].length;
        int length = byRows ? of[0].length : of.length;
        for (int line = 0; line < lines; line++) {
            int first = NONE;
            int last = NONE;
            int sum = 0;
            for (int i = 0; i < length; i++) {
                if (byRows ? of[line][i] : of[i][line]) {
                    first = first == NONE ? i : first;
                    last = i;
                    sum++;
                }
            }
            if (sum > 0 && last - first + 1 != sum) {
                return false;
            }
        }
        return true;
    }

    int figure(int what) {
        need(what >= 0 && what <= 13);
        int[] all = {rows(), columns(), fullCells(full), codeOf(full), parts(full, true).size(), holes(full),
            border(full), isEven(full, true) ? 1 : 0, isEven(full, false) ? 1 : 0, switches(full).size(),
            countFixed(), countTold(), luck, refused};
        return all[what];
    }

    int sum(boolean isRow, int number, boolean isTold) {
        needLine(isRow, number);
        if (isTold) {
            return isRow ? rowTold[number] : columnTold[number];
        }
        return isRow ? rowSum(full, number) : columnSum(full, number);
    }

    int slant(boolean isDown, int number) {
        if (number < 0 || number > rows() + columns() - 2) {
            throw new IndexOutOfBoundsException();
        }
        return slantSum(full, isDown, number);
    }

    String row(int row) {
        needLine(true, row);
        String text = "";
        for (boolean isFull : full[row]) {
            text += isFull ? "#" : ".";
        }
        return text + " " + (rowTold[row] == NONE ? "?" : "" + rowTold[row]);
    }

    boolean rule() {
        if (!allTold() || Arrays.stream(rowTold).sum() != Arrays.stream(columnTold).sum()) {
            return false;
        }
        int[] sorted = columnTold.clone();
        Arrays.sort(sorted);
        for (int k = 1; k <= columns(); k++) {
            int greatest = 0;
            for (int i = 0; i < k; i++) {
                greatest += sorted[columns() - 1 - i];
            }
            int most = 0;
            for (int sum : rowTold) {
                most += Math.min(k, sum);
            }
            if (greatest > most) {
                return false;
            }
        }
        return true;
    }

    /** By paths that make the flow larger, from rows to columns and back. */
    int flow(boolean isWrong) {
        if (isWrong && !allTold()) {
            return NONE;
        }
        int[] rowLeft = rowTold.clone();
        int[] columnLeft = columnTold.clone();
        for (int r = 0; r < rows(); r++) {
            rowLeft[r] = rowLeft[r] == NONE ? columns() : rowLeft[r];
        }
        for (int c = 0; c < columns(); c++) {
            columnLeft[c] = columnLeft[c] == NONE ? rows() : columnLeft[c];
        }
        boolean[][] used = new boolean[rows()][columns()];
        int flow = 0;
        boolean grew = true;
        while (grew) {
            grew = false;
            for (int r = 0; r < rows() && !grew; r++) {
                if (rowLeft[r] > 0 && push(r, used, columnLeft, new boolean[rows()])) {
                    rowLeft[r]--;
                    flow++;
                    grew = true;
                }
            }
        }
        if (!isWrong) {
            return flow;
        }
        return Arrays.stream(rowTold).sum() + Arrays.stream(columnTold).sum() - 2 * flow;
    }

    private boolean push(int row, boolean[][] used, int[] columnLeft, boolean[] seen) {
        seen[row] = true;
        for (int c = 0; c < columns(); c++) {
            if (used[row][c]) {
                continue;
            }
            if (columnLeft[c] > 0) {
                columnLeft[c]--;
                used[row][c] = true;
                return true;
            }
            for (int other = 0; other < rows(); other++) {
                if (used[other][c] && !seen[other] && push(other, used, columnLeft, seen)) {
                    used[other][c] = false;
                    used[row][c] = true;
                    return true;
                }
            }
        }
        return false;
    }

    boolean fits(boolean[][] of) {
        for (int r = 0; r < rows(); r++) {
            if (rowTold[r] != NONE && rowTold[r] != rowSum(of, r)) {
                return false;
            }
            for (int c = 0; c < columns(); c++) {
                if (fixed[r][c] != NONE && (fixed[r][c] == 1) != of[r][c]) {
                    return false;
                }
            }
        }
        for (int c = 0; c < columns(); c++) {
            if (columnTold[c] != NONE && columnTold[c] != columnSum(of, c)) {
                return false;
            }
        }
        return true;
    }

    List<Integer> fits() {
        List<Integer> fits = new ArrayList<>();
        for (int code = 0; code < 1 << (rows() * columns()); code++) {
            if (fits(read(code, rows(), columns()))) {
                fits.add(code);
            }
        }
        return fits;
    }

    int many() {
        return fits().size();
    }

    int nth(int nth) {
        need(nth >= 0);
        List<Integer> fits = fits();
        return nth < fits.size() ? fits.get(nth) : NONE;
    }

    private int fullAmong(List<Integer> fits, int row, int column) {
        int in = 0;
        for (int code : fits) {
            in += read(code, rows(), columns())[row][column] ? 1 : 0;
        }
        return in;
    }

    private int sureAmong(List<Integer> fits, int row, int column) {
        int in = fullAmong(fits, row, column);
        return fits.isEmpty() ? NONE : in == fits.size() ? 1 : in == 0 ? 0 : 2;
    }

    private double oddsAmong(List<Integer> fits, int row, int column) {
        return fits.isEmpty() ? 0.0 : (double) fullAmong(fits, row, column) / fits.size();
    }

    int sure(int row, int column) {
        needCell(row, column);
        return sureAmong(fits(), row, column);
    }

    double odds(int row, int column) {
        needCell(row, column);
        return oddsAmong(fits(), row, column);
    }

    /** All codes of the net with their distance, the nearest first. */
    Map<Integer, Integer> netOf(int start) {
        Map<Integer, Integer> far = new LinkedHashMap<>();
        ArrayDeque<Integer> open = new ArrayDeque<>();
        far.put(start, 0);
        open.add(start);
        while (!open.isEmpty()) {
            int code = open.remove();
            for (boolean[][] next : switches(read(code, rows(), columns()))) {
                if (!far.containsKey(codeOf(next))) {
                    far.put(codeOf(next), far.get(code) + 1);
                    open.add(codeOf(next));
                }
            }
        }
        return far;
    }

    int net() {
        return netOf(codeOf(full)).size();
    }

    int far(int code) {
        need(code >= 0 && code < 1 << (rows() * columns()));
        return netOf(codeOf(full)).getOrDefault(code, NONE);
    }

    int joined() {
        int fewest = NONE;
        for (Map.Entry<Integer, Integer> one : netOf(codeOf(full)).entrySet()) {
            if (parts(read(one.getKey(), rows(), columns()), true).size() == 1
                    && (fewest == NONE || one.getValue() < fewest)) {
                fewest = one.getValue();
            }
        }
        return fewest;
    }

    private int worst(List<Integer> fits, boolean isDown) {
        Map<String, Integer> groups = new HashMap<>();
        int worst = 0;
        for (int code : fits) {
            boolean[][] cells = read(code, rows(), columns());
            StringBuilder key = new StringBuilder();
            for (int number = 0; number < rows() + columns() - 1; number++) {
                key.append(slantSum(cells, isDown, number)).append(' ');
            }
            worst = Math.max(worst, groups.merge(key.toString(), 1, Integer::sum));
        }
        return worst;
    }

    private int bestAmong(List<Integer> fits, boolean isBest) {
        int down = worst(fits, true);
        int up = worst(fits, false);
        return isBest ? (down <= up ? 0 : 1) : Math.min(down, up);
    }

    int best(boolean isBest) {
        return bestAmong(fits(), isBest);
    }

    boolean isSound() {
        int cells = fullCells(full);
        int byRows = 0;
        int byColumns = 0;
        int byDown = 0;
        int byUp = 0;
        for (int r = 0; r < rows(); r++) {
            byRows += rowSum(full, r);
        }
        for (int c = 0; c < columns(); c++) {
            byColumns += columnSum(full, c);
        }
        for (int s = 0; s < rows() + columns() - 1; s++) {
            byDown += slantSum(full, true, s);
            byUp += slantSum(full, false, s);
        }
        if (byRows != cells || byColumns != cells || byDown != cells || byUp != cells) {
            return false;
        }
        if (allTold() && countFixed() == 0) {
            List<Integer> fits = fits();
            if (fits.isEmpty() == rule()) {
                return false;
            }
            if (!fits.isEmpty() && !netOf(fits.get(0)).keySet().containsAll(fits)) {
                return false;
            }
        }
        return (flow(true) == 0) == rule();
    }

    long digest() {
        List<Long> v = new ArrayList<>();
        for (int what = 0; what <= 13; what++) {
            v.add((long) figure(what));
        }
        for (int r = 0; r < rows(); r++) {
            v.add((long) sum(true, r, true));
            v.add((long) sum(true, r, false));
        }
        for (int c = 0; c < columns(); c++) {
            v.add((long) sum(false, c, true));
            v.add((long) sum(false, c, false));
        }
        for (int s = 0; s < rows() + columns() - 1; s++) {
            v.add((long) slant(true, s));
        }
        for (int s = 0; s < rows() + columns() - 1; s++) {
            v.add((long) slant(false, s));
        }
        v.add(rule() ? 1L : 0L);
        v.add((long) flow(false));
        v.add((long) flow(true));
        List<Integer> fits = fits();
        v.add((long) fits.size());
        for (int nth = 0; nth < 3; nth++) {
            v.add((long) (nth < fits.size() ? fits.get(nth) : NONE));
        }
        for (int r = 0; r < rows(); r++) {
            for (int c = 0; c < columns(); c++) {
                v.add((long) sureAmong(fits, r, c));
                v.add((long) (16 * oddsAmong(fits, r, c)));
            }
        }
        v.add((long) net());
        v.add((long) joined());
        v.add((long) bestAmong(fits, true));
        v.add((long) bestAmong(fits, false));
        v.add(isSound() ? 1L : 0L);
        long d = 6857;
        for (long one : v) {
            d = d * 31 + one;
        }
        return d;
    }
}
