import java.util.Arrays;

/**
 * Figures of cells found again from their shadows: the sums of their rows and columns.
 * What each call does is said in the document, ../shared/DOC.md.
 */
public final class Twoshadows {
    private static final int NONE = -1;
    private static final int LONGEST = 4;
    private static final int MOST_CELLS = 16;
    private static final int MOST_FIGURES = 65536;
    private static final int MOST_PATTERNS = 16;
    private static final int MOST_STEPS = 50;
    private static final int FIRST_LUCK = 31;
    private static final int FIRST_LENGTH = 3;
    private static final int LAST_ASKED = 13;

    private final Sheet sheet = new Sheet();
    private final Told told = new Told();
    private final Fits fits = new Fits(sheet, told);
    private final Net reached = new Net(sheet);
    private int code;
    private int luck = FIRST_LUCK;
    private int refused;

    public Twoshadows() {
        layAnew(FIRST_LENGTH, FIRST_LENGTH);
    }

    // ---- sheets and figures

    public int lay(int rows, int columns) throws IllegalArgumentException {
        if (rows < 1 || rows > LONGEST || columns < 1 || columns > LONGEST) {
            throw new IllegalArgumentException("rows and columns are 1 to 4");
        }
        layAnew(rows, columns);
        return sheet.cells();
    }

    private void layAnew(int rows, int columns) {
        sheet.resize(rows, columns);
        told.forget();
        fits.resize();
        code = 0;
    }

    public int cell(int row, int column, boolean isFull) throws IndexOutOfBoundsException {
        if (!sheet.holds(row, column)) {
            throw new IndexOutOfBoundsException("no such cell");
        }
        int bit = sheet.bit(row, column);
        code = isFull ? code | bit : code & ~bit;
        return code;
    }

    public int move(int down, int right) throws IllegalArgumentException, IllegalStateException {
        if (down <= -LONGEST || down >= LONGEST || right <= -LONGEST || right >= LONGEST) {
            throw new IllegalArgumentException("down and right are -3 to 3");
        }
        int moved = movedCode(down, right);
        if (moved == NONE) {
            throw new IllegalStateException("a full cell would leave the sheet");
        }
        code = moved;
        return code;
    }

    private int movedCode(int down, int right) {
        int moved = 0;
        for (int row = 0; row < sheet.rows; row++) {
            for (int column = 0; column < sheet.columns; column++) {
                if ((code & sheet.bit(row, column)) != 0) {
                    if (!sheet.holds(row + down, column + right)) {
                        return NONE;
                    }
                    moved |= sheet.bit(row + down, column + right);
                }
            }
        }
        return moved;
    }

    public int over(boolean isUp) {
        int turned = 0;
        for (int row = 0; row < sheet.rows; row++) {
            for (int column = 0; column < sheet.columns; column++) {
                if ((code & sheet.bit(row, column)) != 0) {
                    turned |= isUp
                        ? sheet.bit(sheet.rows - 1 - row, column)
                        : sheet.bit(row, sheet.columns - 1 - column);
                }
            }
        }
        code = turned;
        return code;
    }

    public int make(int which) throws IndexOutOfBoundsException {
        int made = sheet.switched(code, which);
        if (made == NONE) {
            throw new IndexOutOfBoundsException("no such switch");
        }
        code = made;
        return Shape.pieces(sheet, code);
    }

    public int mix(int steps) throws IllegalArgumentException {
        if (steps < 1 || steps > MOST_STEPS) {
            throw new IllegalArgumentException("steps are 1 to 50");
        }
        int made = 0;
        for (int step = 0; step < steps; step++) {
            int switches = sheet.countSwitches(code);
            if (switches > 0) {
                code = sheet.switched(code, draw(switches));
                made++;
            }
        }
        return made;
    }

    private int draw(int below) {
        luck = (45 * luck + 29) % 256;
        return below > 0 ? luck % below : 0;
    }

    // ---- what is told

    public int tell(boolean isRow, int number, int sum)
            throws IndexOutOfBoundsException, IllegalArgumentException {
        if (number < 0 || number >= sheet.lines(isRow)) {
            throw new IndexOutOfBoundsException("no such row or column");
        }
        if (sum < NONE || sum > sheet.lines(!isRow)) {
            throw new IllegalArgumentException("the sum is -1 to the length of the line");
        }
        int before = told.sumOf(isRow, number);
        told.put(isRow, number, sum);
        fits.forget();
        return before;
    }

    public int take() {
        takeLines(true);
        takeLines(false);
        fits.forget();
        return Integer.bitCount(code);
    }

    private void takeLines(boolean isRow) {
        for (int number = 0; number < sheet.lines(isRow); number++) {
            told.put(isRow, number, sheet.fullIn(code, isRow, number));
        }
    }

    public int fix(int row, int column, int what)
            throws IndexOutOfBoundsException, IllegalArgumentException {
        if (!sheet.holds(row, column)) {
            throw new IndexOutOfBoundsException("no such cell");
        }
        if (what < NONE || what > 1) {
            throw new IllegalArgumentException("what is -1 to 1");
        }
        told.fixCell(sheet.bit(row, column), what);
        fits.forget();
        return told.countFixed();
    }

    public int find(int nth) throws IllegalStateException {
        int found = fits.fresh().codeAt(nth);
        if (found == NONE) {
            throw new IllegalStateException("not so many figures fit");
        }
        code = found;
        return code;
    }

    public int call() {
        refused++;
        return refused;
    }

    // ---- what is asked

    public int figure(int what) throws IllegalArgumentException {
        if (what < 0 || what > LAST_ASKED) {
            throw new IllegalArgumentException("what is 0 to 13");
        }
        return asked(what);
    }

    private int asked(int what) {
        switch (what) {
            case 0: return sheet.rows;
            case 1: return sheet.columns;
            case 2: return Integer.bitCount(code);
            case 3: return code;
            case 4: return Shape.pieces(sheet, code);
            case 5: return Shape.holes(sheet, code);
            case 6: return Shape.border(sheet, code);
            case 7: return Shape.isEven(sheet, code, true) ? 1 : 0;
            case 8: return Shape.isEven(sheet, code, false) ? 1 : 0;
            case 9: return sheet.countSwitches(code);
            case 10: return told.countFixed();
            case 11: return told.countTold();
            case 12: return luck;
            default: return refused;
        }
    }

    public int sum(boolean isRow, int number, boolean isTold) throws IndexOutOfBoundsException {
        if (number < 0 || number >= sheet.lines(isRow)) {
            throw new IndexOutOfBoundsException("no such row or column");
        }
        return isTold ? told.sumOf(isRow, number) : sheet.fullIn(code, isRow, number);
    }

    public int slant(boolean isDown, int number) throws IndexOutOfBoundsException {
        if (number < 0 || number >= sheet.slants()) {
            throw new IndexOutOfBoundsException("no such slant");
        }
        return slantOf(isDown, number);
    }

    private int slantOf(boolean isDown, int number) {
        return Integer.bitCount(code & sheet.slantMask(isDown, number));
    }

    public String row(int row) throws IndexOutOfBoundsException {
        if (row < 0 || row >= sheet.rows) {
            throw new IndexOutOfBoundsException("no such row");
        }
        StringBuilder text = new StringBuilder();
        for (int column = 0; column < sheet.columns; column++) {
            text.append((code & sheet.bit(row, column)) != 0 ? '#' : '.');
        }
        text.append(' ');
        int sum = told.sumOf(true, row);
        if (sum == NONE) {
            text.append('?');
        } else {
            text.append(sum);
        }
        return text.toString();
    }

    // ---- what can be

    public boolean rule() {
        return Flow.isRuleKept(sheet, told);
    }

    public int flow(boolean isWrong) {
        return isWrong ? Flow.wrong(sheet, told) : Flow.most(sheet, told);
    }

    public int many() {
        return fits.fresh().count;
    }

    public int nth(int nth) throws IllegalArgumentException {
        if (nth < 0) {
            throw new IllegalArgumentException("nth is 0 or more");
        }
        return fits.fresh().codeAt(nth);
    }

    public int sure(int row, int column) throws IndexOutOfBoundsException {
        if (!sheet.holds(row, column)) {
            throw new IndexOutOfBoundsException("no such cell");
        }
        return fits.fresh().surely(row, column);
    }

    public double odds(int row, int column) throws IndexOutOfBoundsException {
        if (!sheet.holds(row, column)) {
            throw new IndexOutOfBoundsException("no such cell");
        }
        return fits.fresh().partFull(row, column);
    }

    public int net() {
        reached.spread(code);
        return reached.size;
    }

    public int far(int code) throws IllegalArgumentException {
        if (code < 0 || code > sheet.all) {
            throw new IllegalArgumentException("no such code");
        }
        reached.spread(this.code);
        return reached.stepsTo(code);
    }

    public int joined() {
        reached.spread(code);
        return reached.stepsToOnePiece();
    }

    public int best(boolean isBest) {
        int down = fits.fresh().down.worst;
        int up = fits.fresh().up.worst;
        if (isBest) {
            return up < down ? 1 : 0;
        }
        return up < down ? up : down;
    }

    public boolean isSound() {
        boolean isKept = Flow.isRuleKept(sheet, told);
        boolean isFlowSound = (Flow.wrong(sheet, told) == 0) == isKept;
        return areSumsSound() && isFlowSound && areFitsSound(isKept);
    }

    private boolean areSumsSound() {
        int full = Integer.bitCount(code);
        return linesTogether(true) == full && linesTogether(false) == full
            && slantsTogether(true) == full && slantsTogether(false) == full;
    }

    private int linesTogether(boolean isRow) {
        int together = 0;
        for (int number = 0; number < sheet.lines(isRow); number++) {
            together += sheet.fullIn(code, isRow, number);
        }
        return together;
    }

    private int slantsTogether(boolean isDown) {
        int together = 0;
        for (int number = 0; number < sheet.slants(); number++) {
            together += slantOf(isDown, number);
        }
        return together;
    }

    private boolean areFitsSound(boolean isKept) {
        if (!told.isAllTold(sheet) || told.countFixed() > 0) {
            return true;
        }
        Fits fresh = fits.fresh();
        return fresh.count > 0 ? isKept && areOneNet(fresh) : !isKept;
    }

    private boolean areOneNet(Fits fresh) {
        reached.spread(fresh.codeAt(0));
        for (int number = 0; number < fresh.count; number++) {
            if (reached.stepsTo(fresh.codeAt(number)) == NONE) {
                return false;
            }
        }
        return true;
    }

    public long digest() {
        long d = 6857;
        for (int what = 0; what <= LAST_ASKED; what++) {
            d = d * 31 + asked(what);
        }
        d = addLines(d, true);
        d = addLines(d, false);
        d = addSlants(d, true);
        d = addSlants(d, false);
        d = d * 31 + (rule() ? 1 : 0);
        d = d * 31 + flow(false);
        d = d * 31 + flow(true);
        d = addFits(d);
        d = d * 31 + net();
        d = d * 31 + joined();
        d = d * 31 + best(true);
        d = d * 31 + best(false);
        return d * 31 + (isSound() ? 1 : 0);
    }

    private long addLines(long before, boolean isRow) {
        long d = before;
        for (int number = 0; number < sheet.lines(isRow); number++) {
            d = d * 31 + told.sumOf(isRow, number);
            d = d * 31 + sheet.fullIn(code, isRow, number);
        }
        return d;
    }

    private long addSlants(long before, boolean isDown) {
        long d = before;
        for (int number = 0; number < sheet.slants(); number++) {
            d = d * 31 + slantOf(isDown, number);
        }
        return d;
    }

    private long addFits(long before) {
        Fits fresh = fits.fresh();
        long d = before * 31 + fresh.count;
        for (int number = 0; number < 3; number++) {
            d = d * 31 + fresh.codeAt(number);
        }
        for (int row = 0; row < sheet.rows; row++) {
            for (int column = 0; column < sheet.columns; column++) {
                d = d * 31 + fresh.surely(row, column);
                d = d * 31 + (int) (16 * fresh.partFull(row, column));
            }
        }
        return d;
    }

    /** The size of the sheet, and where the cells of its lines, slants and switches lie in a code. */
    private static final class Sheet {
        // 6 pairs of rows by 6 pairs of columns
        static final int MOST_PLACES = 36;

        final int[] rowMasks = new int[LONGEST];
        final int[] columnMasks = new int[LONGEST];
        final int[] straight = new int[MOST_PLACES];
        final int[] crossed = new int[MOST_PLACES];
        int places;
        int rows;
        int columns;
        int all;
        int edge;
        int notFirstColumn;
        int notLastColumn;

        void resize(int newRows, int newColumns) {
            rows = newRows;
            columns = newColumns;
            for (int number = 0; number < rowMasks.length && number < columnMasks.length; number++) {
                rowMasks[number] = maskOf(true, number);
                columnMasks[number] = maskOf(false, number);
            }
            int firstColumn = lineMask(false, 0);
            int lastColumn = lineMask(false, columns - 1);
            all = (1 << cells()) - 1;
            notFirstColumn = all & ~firstColumn;
            notLastColumn = all & ~lastColumn;
            edge = firstColumn | lastColumn | lineMask(true, 0) | lineMask(true, rows - 1);
            layPlaces();
        }

        private int maskOf(boolean isRow, int number) {
            int mask = 0;
            if (number < lines(isRow)) {
                for (int other = 0; other < lines(!isRow); other++) {
                    mask |= isRow ? bit(number, other) : bit(other, number);
                }
            }
            return mask;
        }

        private void layPlaces() {
            places = 0;
            for (int first = 0; first < rows; first++) {
                for (int second = first + 1; second < rows; second++) {
                    addPlaces(first, second);
                }
            }
        }

        private void addPlaces(int firstRow, int secondRow) {
            for (int first = 0; first < columns; first++) {
                for (int second = first + 1; second < columns; second++) {
                    if (places < straight.length && places < crossed.length) {
                        straight[places] = bit(firstRow, first) | bit(secondRow, second);
                        crossed[places] = bit(firstRow, second) | bit(secondRow, first);
                        places++;
                    }
                }
            }
        }

        int cells() {
            return rows * columns;
        }

        boolean holds(int row, int column) {
            return row >= 0 && row < rows && column >= 0 && column < columns;
        }

        int bit(int row, int column) {
            return 1 << (row * columns + column);
        }

        int lines(boolean isRow) {
            return isRow ? rows : columns;
        }

        int lineMask(boolean isRow, int number) {
            int[] masks = isRow ? rowMasks : columnMasks;
            return number >= 0 && number < masks.length ? masks[number] : 0;
        }

        /** How many cells of the line are full. */
        int fullIn(int code, boolean isRow, int number) {
            return Integer.bitCount(code & lineMask(isRow, number));
        }

        int slants() {
            return rows + columns - 1;
        }

        int slantNumber(boolean isDown, int row, int column) {
            return isDown ? column - row + rows - 1 : row + column;
        }

        int slantMask(boolean isDown, int number) {
            int mask = 0;
            for (int row = 0; row < rows; row++) {
                for (int column = 0; column < columns; column++) {
                    if (slantNumber(isDown, row, column) == number) {
                        mask |= bit(row, column);
                    }
                }
            }
            return mask;
        }

        /** The code after a switch at that place; NONE if there is no switch. */
        int switchedAt(int code, int place) {
            if (place < 0 || place >= straight.length || place >= crossed.length) {
                return NONE;
            }
            int both = straight[place] | crossed[place];
            int full = code & both;
            return full == straight[place] || full == crossed[place] ? code ^ both : NONE;
        }

        int countSwitches(int code) {
            int switches = 0;
            for (int place = 0; place < places; place++) {
                if (switchedAt(code, place) != NONE) {
                    switches++;
                }
            }
            return switches;
        }

        /** The code after the switch of that number; NONE if there is none. */
        int switched(int code, int which) {
            int number = 0;
            for (int place = 0; place < places; place++) {
                int after = switchedAt(code, place);
                if (after != NONE) {
                    if (number == which) {
                        return after;
                    }
                    number++;
                }
            }
            return NONE;
        }
    }

    /** What is measured on a figure by the sides of its cells. */
    private static final class Shape {
        static int pieces(Sheet sheet, int code) {
            return parts(sheet, code, 0);
        }

        static int holes(Sheet sheet, int code) {
            return parts(sheet, sheet.all & ~code, sheet.edge);
        }

        /** How many parts the cells have that hang together and none of whose cells is in apart. */
        private static int parts(Sheet sheet, int cells, int apart) {
            int parts = 0;
            int rest = cells;
            for (int turn = 0; turn < MOST_CELLS && rest != 0; turn++) {
                int part = partAround(sheet, rest & -rest, cells);
                if ((part & apart) == 0) {
                    parts++;
                }
                rest &= ~part;
            }
            return parts;
        }

        private static int partAround(Sheet sheet, int seed, int cells) {
            int part = seed;
            for (int turn = 0; turn < MOST_CELLS; turn++) {
                int grown = part | beside(sheet, part) & cells;
                if (grown == part) {
                    return part;
                }
                part = grown;
            }
            return part;
        }

        private static int beside(Sheet sheet, int cells) {
            int upAndDown = cells << sheet.columns | cells >>> sheet.columns;
            int right = (cells & sheet.notLastColumn) << 1;
            int left = (cells & sheet.notFirstColumn) >>> 1;
            return sheet.all & (upAndDown | right | left);
        }

        static int border(Sheet sheet, int code) {
            int upper = code & code >>> sheet.columns;
            int left = code & sheet.notLastColumn & code >>> 1;
            // a side between two full cells is no border for either of them
            return 4 * Integer.bitCount(code) - 2 * (Integer.bitCount(upper) + Integer.bitCount(left));
        }

        static boolean isEven(Sheet sheet, int code, boolean isRow) {
            int behind = isRow
                ? (code & sheet.notLastColumn) << 1
                : code << sheet.columns;
            int starts = code & ~behind;
            for (int number = 0; number < sheet.lines(isRow); number++) {
                if (sheet.fullIn(starts, isRow, number) > 1) {
                    return false;
                }
            }
            return true;
        }
    }

    /** The sums that are told and the cells that are fixed. */
    private static final class Told {
        final int[] rowSums = new int[LONGEST];
        final int[] columnSums = new int[LONGEST];
        int fixedFull;
        int fixedEmpty;

        void forget() {
            Arrays.fill(rowSums, NONE);
            Arrays.fill(columnSums, NONE);
            fixedFull = 0;
            fixedEmpty = 0;
        }

        int sumOf(boolean isRow, int number) {
            int[] sums = isRow ? rowSums : columnSums;
            return number >= 0 && number < sums.length ? sums[number] : NONE;
        }

        void put(boolean isRow, int number, int sum) {
            int[] sums = isRow ? rowSums : columnSums;
            if (number >= 0 && number < sums.length) {
                sums[number] = sum;
            }
        }

        void fixCell(int bit, int what) {
            fixedFull = what == 1 ? fixedFull | bit : fixedFull & ~bit;
            fixedEmpty = what == 0 ? fixedEmpty | bit : fixedEmpty & ~bit;
        }

        int countFixed() {
            return Integer.bitCount(fixedFull | fixedEmpty);
        }

        int countTold() {
            int count = 0;
            for (int number = 0; number < LONGEST; number++) {
                count += sumOf(true, number) == NONE ? 0 : 1;
                count += sumOf(false, number) == NONE ? 0 : 1;
            }
            return count;
        }

        boolean isAllTold(Sheet sheet) {
            return countTold() == sheet.rows + sheet.columns;
        }
    }

    /** Whether there can be a figure with the sums that are told: by the great rule and by a flow. */
    private static final class Flow {
        static boolean isRuleKept(Sheet sheet, Told told) {
            if (!told.isAllTold(sheet) || together(sheet, told, true) != together(sheet, told, false)) {
                return false;
            }
            // the k greatest columns keep the rule just if all sets of k columns keep it
            for (int set = 0; set < 1 << sheet.columns; set++) {
                if (columnsIn(sheet, told, set) > rowsGive(sheet, told, Integer.bitCount(set))) {
                    return false;
                }
            }
            return true;
        }

        /** The most that can flow is the least that a cut lets through. */
        static int most(Sheet sheet, Told told) {
            int least = sheet.cells();
            int last = (1 << sheet.columns) - 1;
            for (int set = 0; set <= last; set++) {
                int through = columnsIn(sheet, told, last & ~set)
                    + rowsGive(sheet, told, Integer.bitCount(set));
                least = Math.min(least, through);
            }
            return least;
        }

        static int wrong(Sheet sheet, Told told) {
            if (!told.isAllTold(sheet)) {
                return NONE;
            }
            return together(sheet, told, true) + together(sheet, told, false) - 2 * most(sheet, told);
        }

        private static int together(Sheet sheet, Told told, boolean isRow) {
            int together = 0;
            for (int number = 0; number < sheet.lines(isRow); number++) {
                together += limit(sheet, told, isRow, number);
            }
            return together;
        }

        private static int columnsIn(Sheet sheet, Told told, int set) {
            int together = 0;
            for (int number = 0; number < sheet.columns; number++) {
                if ((set >>> number & 1) != 0) {
                    together += limit(sheet, told, false, number);
                }
            }
            return together;
        }

        /** The most cells that the rows have in so many columns. */
        private static int rowsGive(Sheet sheet, Told told, int columns) {
            int together = 0;
            for (int number = 0; number < sheet.rows; number++) {
                together += Math.min(columns, limit(sheet, told, true, number));
            }
            return together;
        }

        private static int limit(Sheet sheet, Told told, boolean isRow, int number) {
            int sum = told.sumOf(isRow, number);
            return sum == NONE ? sheet.lines(!isRow) : sum;
        }
    }

    /** Counts figures by the sums of their slants of one direction. */
    private static final class SlantGroups {
        // slants of 1, 2, 3, 4, 3, 2 and 1 cells have 2 * 3 * 4 * 5 * 4 * 3 * 2 different sums
        static final int MOST_GROUPS = 2880;

        final boolean isDown;
        final int[] weights = new int[MOST_CELLS];
        final int[] keys = new int[LONGEST * MOST_PATTERNS];
        final int[] groups = new int[MOST_GROUPS];
        int worst;

        SlantGroups(boolean isDown) {
            this.isDown = isDown;
        }

        void resize(Sheet sheet) {
            int weight = 1;
            for (int number = 0; number < sheet.slants(); number++) {
                int mask = sheet.slantMask(isDown, number);
                for (int cell = 0; cell < weights.length; cell++) {
                    if ((mask >>> cell & 1) != 0) {
                        weights[cell] = weight;
                    }
                }
                weight *= Integer.bitCount(mask) + 1;
            }
            for (int place = 0; place < keys.length; place++) {
                keys[place] = keyFor(sheet.columns, place / MOST_PATTERNS, place % MOST_PATTERNS);
            }
        }

        private int keyFor(int columns, int row, int pattern) {
            int key = 0;
            for (int column = 0; column < columns; column++) {
                int cell = row * columns + column;
                if ((pattern >>> column & 1) != 0 && cell >= 0 && cell < weights.length) {
                    key += weights[cell];
                }
            }
            return key;
        }

        /** What a row adds to the number of the group. */
        int keyOf(int row, int pattern) {
            int place = row * MOST_PATTERNS + pattern;
            return place >= 0 && place < keys.length ? keys[place] : 0;
        }

        void clear() {
            Arrays.fill(groups, 0);
            worst = 0;
        }

        void count(int group) {
            if (group >= 0 && group < groups.length) {
                groups[group]++;
                worst = Math.max(worst, groups[group]);
            }
        }
    }

    /** All figures that fit, walked through once for all questions until what is told changes. */
    private static final class Fits {
        private final Sheet sheet;
        private final Told told;
        private final int[] codes = new int[MOST_FIGURES];
        private final int[] fullCounts = new int[MOST_CELLS];
        private final SlantGroups down = new SlantGroups(true);
        private final SlantGroups up = new SlantGroups(false);
        private int count;
        private boolean isFresh;

        Fits(Sheet sheet, Told told) {
            this.sheet = sheet;
            this.told = told;
        }

        void resize() {
            down.resize(sheet);
            up.resize(sheet);
            forget();
        }

        void forget() {
            isFresh = false;
        }

        /** These figures, walked through anew if what is told has changed. */
        Fits fresh() {
            if (!isFresh) {
                isFresh = true;
                count = 0;
                Arrays.fill(fullCounts, 0);
                down.clear();
                up.clear();
                walk(this, sheet.rows - 1, 0, 0, 0);
            }
            return this;
        }

        /** NONE, if there are not so many, or nth is below 0. */
        int codeAt(int nth) {
            return nth >= 0 && nth < count && nth < codes.length ? codes[nth] : NONE;
        }

        int surely(int row, int column) {
            if (count == 0) {
                return NONE;
            }
            int full = countFull(row, column);
            if (full == 0) {
                return 0;
            }
            return full == count ? 1 : 2;
        }

        double partFull(int row, int column) {
            return count > 0 ? (double) countFull(row, column) / (double) count : 0.0;
        }

        private int countFull(int row, int column) {
            int cell = row * sheet.columns + column;
            return cell >= 0 && cell < fullCounts.length ? fullCounts[cell] : 0;
        }

        /**
         * Goes from the last row up to the first one, since that way codes rise, and keeps what fits.
         * Returns how many fit that have the rows chosen so far.
         */
        private static int walk(Fits fits, int row, int chosen, int downKey, int upKey) {
            if (row < 0) {
                fits.keep(chosen, downKey, upKey);
                return 1;
            }
            if (row >= LONGEST) {
                return 0;
            }
            int found = 0;
            int columns = fits.sheet.columns;
            for (int pattern = 0; pattern < 1 << columns; pattern++) {
                int grown = chosen | pattern << row * columns;
                if (fits.mayFit(row, grown)) {
                    int here = walk(fits, row - 1, grown,
                        downKey + fits.down.keyOf(row, pattern), upKey + fits.up.keyOf(row, pattern));
                    fits.addFull(row, pattern, here);
                    found += here;
                }
            }
            return found;
        }

        private void keep(int code, int downKey, int upKey) {
            if (count < codes.length) {
                codes[count] = code;
                count++;
                down.count(downKey);
                up.count(upKey);
            }
        }

        /** Whether the row is as told, and the rows before it can still make the columns as told. */
        private boolean mayFit(int row, int chosen) {
            int mask = sheet.lineMask(true, row);
            int part = chosen & mask;
            if ((part & told.fixedEmpty) != 0 || (mask & told.fixedFull & ~part) != 0) {
                return false;
            }
            int rowSum = told.sumOf(true, row);
            if (rowSum != NONE && rowSum != Integer.bitCount(part)) {
                return false;
            }
            for (int column = 0; column < sheet.columns; column++) {
                int sum = told.sumOf(false, column);
                if (sum != NONE) {
                    int full = Integer.bitCount(chosen & sheet.lineMask(false, column));
                    if (full > sum || full + row < sum) {
                        return false;
                    }
                }
            }
            return true;
        }

        private void addFull(int row, int pattern, int figures) {
            for (int column = 0; column < sheet.columns; column++) {
                int cell = row * sheet.columns + column;
                if ((pattern >>> column & 1) != 0 && cell >= 0 && cell < fullCounts.length) {
                    fullCounts[cell] += figures;
                }
            }
        }
    }

    /** The figures that are reached from one by switches, the nearest first. */
    private static final class Net {
        // a net has one figure for all rows and columns; of 4 by 4 cells no sums have more than 90
        static final int MOST_REACHED = 90;

        private final Sheet sheet;
        private final int[] codes = new int[MOST_REACHED];
        private final int[] steps = new int[MOST_REACHED];
        int size;

        Net(Sheet sheet) {
            this.sheet = sheet;
        }

        void spread(int start) {
            size = 0;
            reach(start, 0);
            for (int next = 0; next < size && next < codes.length && next < steps.length; next++) {
                for (int place = 0; place < sheet.places; place++) {
                    int after = sheet.switchedAt(codes[next], place);
                    if (after != NONE) {
                        reach(after, steps[next] + 1);
                    }
                }
            }
        }

        private void reach(int code, int far) {
            if (stepsTo(code) == NONE && size < codes.length && size < steps.length) {
                codes[size] = code;
                steps[size] = far;
                size++;
            }
        }

        /** NONE, if it is not in the net. */
        int stepsTo(int code) {
            for (int place = 0; place < size && place < codes.length && place < steps.length; place++) {
                if (codes[place] == code) {
                    return steps[place];
                }
            }
            return NONE;
        }

        int stepsToOnePiece() {
            for (int place = 0; place < size && place < codes.length && place < steps.length; place++) {
                if (Shape.pieces(sheet, codes[place]) == 1) {
                    return steps[place];
                }
            }
            return NONE;
        }
    }
}
