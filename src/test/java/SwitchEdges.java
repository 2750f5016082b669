import java.util.ArrayList;
import java.util.List;

/** The edges of switches and of chance: promises 6, 7, 23, 24 and 25. */
final class SwitchEdges {
    /** The most switches that a figure has. */
    private static final String[] MOST = {"..##", "..##", "##..", "##.."};

    private SwitchEdges() {
    }

    static void run() {
        luck();
        switches();
        numbers();
        make();
        mix();
        mixDraws();
        net();
        far();
        farOutside();
        joined();
        askedAnew();
    }

    private static void luck() {
        Edge.of("Description", "LUCK is 31 at first");
        Edge.same("luck", new Twoshadows().figure(12), 31);
        Edge.of("Description", "LUCK becomes (45 * LUCK + 29) modulo 256");
        Twoshadows x = Edge.drawn("#.", ".#");
        boolean[] seen = new boolean[256];
        int luck = 31;
        for (int step = 1; step <= 200; step++) {
            x.mix(1);
            luck = (45 * luck + 29) % 256;
            Edge.same("step " + step, x.figure(12), luck);
            seen[luck] = true;
        }
        Edge.same("the least was there", seen[0], true);
        Edge.same("the greatest was there", seen[255], true);
        Edge.same("56 more steps", x.mix(50) + x.mix(6), 56);
        Edge.same("all 256 have been", x.figure(12), 31);
        Edge.of("Description", "LUCK modulo n is drawn");
        drawnOf(MOST, 120);
        drawnOf(new String[] {"#..", ".#.", "..#"}, 120);
        drawnOf(new String[] {"##..", "..##"}, 120);
        drawnOf(new String[] {"#.", ".#"}, 10);
    }

    /** Each step makes just the switch that LUCK tells, also if LUCK is smaller than their number. */
    private static void drawnOf(String[] rows, int steps) {
        Twoshadows x = Edge.drawn(rows);
        boolean isSmaller = false;
        for (int step = 1; step <= steps; step++) {
            List<Integer> after = afterSwitches(x.figure(3), rows.length, rows[0].length());
            x.mix(1);
            int luck = x.figure(12);
            isSmaller |= luck < after.size();
            Edge.same(rows.length + " rows, step " + step, x.figure(3), after.get(luck % after.size()));
        }
        Edge.same(rows.length + " rows, luck was smaller than the number", isSmaller || steps < 100, true);
    }

    /** The codes to which the switches lead, by the first row, the second, the first column, the second. */
    private static List<Integer> afterSwitches(int code, int rows, int columns) {
        List<Integer> after = new ArrayList<>();
        for (int r = 0; r < rows; r++) {
            for (int s = r + 1; s < rows; s++) {
                for (int c = 0; c < columns; c++) {
                    for (int d = c + 1; d < columns; d++) {
                        int straight = 1 << (r * columns + c) | 1 << (s * columns + d);
                        int crossed = 1 << (r * columns + d) | 1 << (s * columns + c);
                        if ((code & (straight | crossed)) == straight || (code & (straight | crossed)) == crossed) {
                            after.add(code ^ straight ^ crossed);
                        }
                    }
                }
            }
        }
        return after;
    }

    private static Twoshadows ofCode(int code, int rows, int columns) {
        Twoshadows x = Edge.laid(rows, columns);
        for (int cell = 0; cell < rows * columns; cell++) {
            x.cell(cell / columns, cell % columns, (code >> cell & 1) == 1);
        }
        return x;
    }

    private static void switches() {
        Edge.of("3. Switches", "are FULL, and the other two EMPTY, or the other way round");
        for (int code = 0; code < 16; code++) {
            Edge.same("2 by 2, code " + code, ofCode(code, 2, 2).figure(9), code == 6 || code == 9 ? 1 : 0);
        }
        Edge.eachSheet((rows, columns) -> {
            Edge.same(Edge.size(rows, columns) + " empty", Edge.laid(rows, columns).figure(9), 0);
            Edge.same(Edge.size(rows, columns) + " full", Edge.full(rows, columns).figure(9), 0);
        });
        Edge.same("one row", Edge.drawn("#.#.").figure(9), 0);
        Edge.same("one column", Edge.drawn("#", ".", "#", ".").figure(9), 0);
        Edge.same("the most", Edge.drawn(MOST).figure(9), 16);
        Edge.of("3. Switches", "by it FULL ones become EMPTY, and EMPTY ones FULL");
        Edge.eachSheet((rows, columns) -> {
            for (int first = 0; first < rows * columns; first++) {
                for (int second = first + 1; second < rows * columns; second++) {
                    thereAndBack(rows, columns, first, second);
                }
            }
        });
    }

    /** Two full cells alone have a switch just if neither their row nor their column is the same. */
    private static void thereAndBack(int rows, int columns, int first, int second) {
        String what = Edge.size(rows, columns) + " cells " + first + " and " + second;
        boolean isSwitch = first / columns != second / columns && first % columns != second % columns;
        int code = 1 << first | 1 << second;
        Twoshadows x = ofCode(code, rows, columns);
        Edge.same(what, x.figure(9), isSwitch ? 1 : 0);
        if (isSwitch) {
            int along = second % columns - first % columns;
            x.make(0);
            Edge.same(what + ", there", x.figure(3), 1 << (first + along) | 1 << (second - along));
            x.make(0);
            Edge.same(what + ", and back", x.figure(3), code);
        }
    }

    private static void numbers() {
        Edge.of("3. Switches", "by the first row, then by the second one (that is greater)");
        made(new String[] {"#.", ".#", ".#"}, 0, ".#", "#.", ".#");
        made(new String[] {"#.", ".#", ".#"}, 1, ".#", ".#", "#.");
        made(new String[] {"#..", ".#.", "..#"}, 0, ".#.", "#..", "..#");
        made(new String[] {"#..", ".#.", "..#"}, 1, "..#", ".#.", "#..");
        made(new String[] {"#..", ".#.", "..#"}, 2, "#..", "..#", ".#.");
        Edge.of("3. Switches", "by the first column, then by the second one (that is greater)");
        made(new String[] {"##..", "..##"}, 0, ".##.", "#..#");
        made(new String[] {"##..", "..##"}, 1, ".#.#", "#.#.");
        made(new String[] {"##..", "..##"}, 2, "#.#.", ".#.#");
        made(new String[] {"##..", "..##"}, 3, "#..#", ".##.");
        Edge.of("3. Switches", "SWITCHES of a FIGURE are numbered from 0");
        List<Integer> after = afterSwitches(Edge.drawn(MOST).figure(3), 4, 4);
        for (int which = 0; which < 16; which++) {
            Twoshadows x = Edge.drawn(MOST);
            x.make(which);
            Edge.same("of the most, number " + which, x.figure(3), after.get(which));
        }
    }

    private static void made(String[] from, int which, String... due) {
        Twoshadows x = Edge.drawn(from);
        x.make(which);
        Edge.same("number " + which, x.figure(3), Edge.drawn(due).figure(3));
    }

    private static void make() {
        Edge.of("Promise 6", "Makes a SWITCH of the FIGURE");
        Twoshadows x = Edge.drawn("#..", ".#.", "..#");
        x.take();
        x.fix(0, 0, 1);
        x.make(0);
        Edge.same("told stays", Edge.told(x), "111/111");
        Edge.same("fixed stays", x.figure(10), 1);
        Edge.same("luck stays", x.figure(12), 31);
        Edge.same("code", x.figure(3), 2 | 8 | 256);
        Edge.of("Promise 6", "Returns PIECES then");
        Edge.same("fewer than before", Edge.drawn("##.", ".##", "#..").make(0), 1);
        Edge.same("more than before", Edge.drawn(".##", "##.", "#..").make(0), 2);
        Edge.same("as before", Edge.drawn("#.", ".#").make(0), 2);
        Edge.of("Promise 6", "`which`: its number");
        Edge.same("the last", Edge.drawn(MOST).make(15), 2);
        Edge.of("Promise 6", "if there is no such SWITCH");
        for (int wrong : new int[] {-1, 16, 17, 36, Edge.LEAST, Edge.GREATEST}) {
            Edge.refused("of the most, " + wrong, () -> Edge.drawn(MOST), y -> y.make(wrong), Edge.INDEX);
        }
        Edge.refused("one, 1", () -> Edge.drawn("#.", ".#"), y -> y.make(1), Edge.INDEX);
        Edge.refused("one, -1", () -> Edge.drawn("#.", ".#"), y -> y.make(-1), Edge.INDEX);
        Edge.eachSheet((rows, columns) -> {
            String size = Edge.size(rows, columns);
            int behind = Edge.busy(rows, columns).figure(9);
            Edge.refused(size + " empty", () -> Edge.laid(rows, columns), y -> y.make(0), Edge.INDEX);
            Edge.refused(size + " full", () -> Edge.full(rows, columns), y -> y.make(0), Edge.INDEX);
            Edge.refused(size + " busy", () -> Edge.busy(rows, columns), y -> y.make(behind), Edge.INDEX);
        });
    }

    private static void mix() {
        Edge.of("Promise 7", "MIXES the FIGURE");
        Twoshadows x = Edge.drawn("#..", ".#.", "..#");
        x.take();
        x.fix(0, 0, 1);
        x.mix(1);
        Edge.same("code, by number 144 modulo 3", x.figure(3), 2 | 8 | 256);
        Edge.same("told stays", Edge.told(x), "111/111");
        Edge.same("fixed stays", x.figure(10), 1);
        Edge.of("Promise 7", "`steps`: how many steps");
        Twoshadows one = Edge.drawn("#.", ".#");
        Edge.same("the fewest", one.mix(1), 1);
        Edge.same("switched once", one.figure(3), 6);
        Edge.same("two", one.mix(2), 2);
        Edge.same("switched three times", one.figure(3), 6);
        Edge.of("Promise 7", "Returns how many SWITCHES were made");
        Edge.same("the most", Edge.drawn(MOST).mix(50), 50);
        Edge.same("49", Edge.drawn(MOST).mix(49), 49);
        Edge.same("none by 1", Edge.laid(4, 4).mix(1), 0);
        Edge.same("none by 50", Edge.full(4, 4).mix(50), 0);
        Edge.of("Promise 7", "if steps is not 1 to 50");
        for (int wrong : new int[] {0, 51, -1, 100, Edge.LEAST, Edge.GREATEST}) {
            Edge.refused("steps " + wrong, () -> Edge.busy(3, 3), y -> y.mix(wrong), Edge.ARGUMENT);
            Edge.refused("without switches, " + wrong, () -> Edge.laid(2, 2), y -> y.mix(wrong), Edge.ARGUMENT);
        }
    }

    private static void mixDraws() {
        Edge.of("3. Switches", "if there are SWITCHES, one number below their number is DRAWN");
        Edge.eachSheet((rows, columns) -> {
            Twoshadows empty = Edge.laid(rows, columns);
            Twoshadows full = Edge.full(rows, columns);
            empty.mix(50);
            full.mix(50);
            Edge.same(Edge.size(rows, columns) + " empty: not drawn", empty.figure(12), 31);
            Edge.same(Edge.size(rows, columns) + " full: not drawn", full.figure(12), 31);
            Edge.same(Edge.size(rows, columns) + " full: not changed", full.figure(3), (1 << (rows * columns)) - 1);
        });
        Twoshadows once = Edge.drawn(MOST);
        Twoshadows stepwise = Edge.drawn(MOST);
        once.mix(50);
        for (int step = 0; step < 50; step++) {
            stepwise.mix(1);
        }
        Edge.same("50 steps at once or one by one", Edge.figures(once), Edge.figures(stepwise));
    }

    private static void net() {
        Edge.of("3. Switches", "all FIGURES to which one comes from it by SWITCHES (itself, too)");
        Edge.eachSheet((rows, columns) -> {
            Edge.same(Edge.size(rows, columns) + " empty", Edge.laid(rows, columns).net(), 1);
            Edge.same(Edge.size(rows, columns) + " full", Edge.full(rows, columns).net(), 1);
        });
        Edge.same("no switch", Edge.drawn("###", "#..").net(), 1);
        Edge.same("one row", Edge.drawn("#.#.").net(), 1);
        Edge.same("one column", Edge.drawn("#", ".", "#").net(), 1);
        Edge.same("one switch", Edge.drawn("#.", ".#").net(), 2);
        Edge.of("Promise 23", "Returns how many FIGURES the NET of the FIGURE has");
        Edge.same("the most", Edge.drawn(MOST).net(), 90);
        Edge.same("one in each", Edge.drawn("#...", ".#..", "..#.", "...#").net(), 24);
        Edge.same("three in each", Edge.drawn(".###", "#.##", "##.#", "###.").net(), 24);
        Edge.same("two rows", Edge.drawn("##..", "..##").net(), 6);
        Twoshadows x = Edge.drawn(MOST);
        Edge.fixAll(x, 0);
        Edge.tellAll(x, true, 4);
        Edge.same("whatever is told and fixed", x.net(), 90);
    }

    private static void far() {
        Edge.of("3. Switches", "NONE, if it is not in the NET");
        Twoshadows x = Edge.drawn("#..", ".#.", "..#");
        int inNet = 0;
        for (int code = 0; code < 490; code++) {
            inNet += x.far(code) == Edge.NONE ? 0 : 1;
        }
        Edge.same("codes in the net", inNet, 6);
        Edge.same("empty, from full", Edge.full(4, 4).far(0), -1);
        Edge.same("full, from empty", Edge.laid(4, 4).far(65535), -1);
        Edge.same("as many cells, other sums", Edge.drawn("##", "..").far(9), -1);
        Edge.same("the same rows, other columns", Edge.drawn("#.", "#.").far(6), -1);
        Edge.of("3. Switches", "the fewest SWITCHES from it to another one");
        Edge.same("one, though two lead there, too", Edge.drawn("#..", ".#.", "..#").far(2 | 8 | 256), 1);
        Edge.same("two", Edge.drawn("#..", ".#.", "..#").far(2 | 32 | 64), 2);
        Edge.same("four", Edge.drawn("..##", ".##.", "#..#", "##..").far(
            Edge.drawn("##..", "#..#", ".##.", "..##").figure(3)), 4);
        Edge.of("Promise 24", "(NONE; 0 to itself)");
        Edge.eachSheet((rows, columns) -> {
            int all = (1 << (rows * columns)) - 1;
            Edge.same(Edge.size(rows, columns) + " empty", Edge.laid(rows, columns).far(0), 0);
            Edge.same(Edge.size(rows, columns) + " full", Edge.full(rows, columns).far(all), 0);
            Edge.same(Edge.size(rows, columns) + " not in the net", Edge.laid(rows, columns).far(all), -1);
            Twoshadows busy = Edge.busy(rows, columns);
            Edge.same(Edge.size(rows, columns) + " itself", busy.far(busy.figure(3)), 0);
        });
    }

    private static void farOutside() {
        Edge.of("Promise 24", "`code`: a CODE");
        Twoshadows x = Edge.drawn("#.", ".#");
        Edge.same("another figure", x.far(6), 1);
        Edge.same("the figure stays", x.figure(3), 9);
        Edge.of("Promise 24", "if code is not 0 to 2^(ROWS * COLUMNS) - 1");
        Edge.eachSheet((rows, columns) -> {
            int behind = 1 << (rows * columns);
            for (int wrong : new int[] {-1, behind, behind + 1, Edge.LEAST, Edge.GREATEST}) {
                Edge.refused(Edge.size(rows, columns) + " code " + wrong, () -> Edge.busy(rows, columns),
                    y -> y.far(wrong), Edge.ARGUMENT);
            }
            Edge.same(Edge.size(rows, columns) + " the greatest", Edge.full(rows, columns).far(behind - 1), 0);
        });
    }

    private static void joined() {
        Edge.of("3. Switches", "0, if it has; NONE, if none in the NET has");
        Edge.eachSheet((rows, columns) -> {
            Edge.same(Edge.size(rows, columns) + " empty", Edge.laid(rows, columns).joined(), -1);
            Edge.same(Edge.size(rows, columns) + " full", Edge.full(rows, columns).joined(), 0);
            Twoshadows x = Edge.laid(rows, columns);
            x.cell(rows - 1, 0, true);
            Edge.same(Edge.size(rows, columns) + " one cell", x.joined(), 0);
        });
        Edge.same("none in a net of six", Edge.drawn("#..", ".#.", "..#").joined(), -1);
        Edge.same("none without a switch", Edge.drawn("#.#").joined(), -1);
        Edge.of("3. Switches", "JOINED: the fewest SWITCHES to one that has one PIECE");
        Edge.same("one", Edge.drawn("##.", ".##", "#..").joined(), 1);
        Edge.same("two", Edge.drawn("##.", "#.#", ".#.").joined(), 2);
        Edge.same("three", Edge.drawn("#.##", "##.#", "..##", "#...").joined(), 3);
        Edge.of("Promise 25", "Returns JOINED of the FIGURE (NONE)");
        Twoshadows x = Edge.drawn("##.", "#.#", ".#.");
        Edge.same("two", x.joined(), 2);
        Edge.same("the figure stays", x.figure(3), Edge.drawn("##.", "#.#", ".#.").figure(3));
        Edge.same("none", new Twoshadows().joined(), -1);
    }

    /** The net is asked of one figure after another, a larger one before a smaller one, too. */
    private static void askedAnew() {
        Edge.of("3. Switches", "The NET of a FIGURE");
        Twoshadows x = Edge.drawn(MOST);
        Edge.same("the most", x.net(), 90);
        x.make(0);
        Edge.same("behind a switch", x.net(), 90);
        int before = x.figure(3);
        x.cell(0, 0, true);
        x.cell(3, 3, true);
        Edge.same("the net of before is left", x.far(before), -1);
        x.lay(4, 4);
        Edge.same("empty", x.net(), 1);
        Edge.same("empty, far from before", x.far(before), -1);
        Edge.same("empty, never joined", x.joined(), -1);
        x.cell(0, 0, true);
        x.cell(1, 1, true);
        Edge.same("two cells", x.net(), 2);
        Edge.same("two cells, never joined", x.joined(), -1);
        Edge.same("two cells, far from before", x.far(before), -1);
        x.cell(0, 1, true);
        Edge.same("three cells", x.joined(), 0);
        x.over(true);
        Edge.same("turned over", x.net(), 1);
        x.find(before);
        Edge.same("found again", x.net(), 90);
        Edge.same("found again, itself", x.far(before), 0);
        Twoshadows y = Edge.drawn("##.", ".##", "#..");
        Edge.same("joined by one", y.joined(), 1);
        y.lay(3, 3);
        Edge.same("never joined, behind one that was", y.joined(), -1);
    }
}
