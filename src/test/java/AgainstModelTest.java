import java.util.Random;

/** Runs of calls by chance, each answer compared with that of the plain model. */
public final class AgainstModelTest {
    private static final String[] CALLS = {"lay", "cell", "move", "over", "make", "mix", "tell", "take", "fix",
        "find", "call", "figure", "sum", "slant", "row", "rule", "flow", "many", "nth", "sure", "odds", "net",
        "far", "joined", "best", "isSound", "digest"};

    private final Random random;
    private final Twoshadows mine = new Twoshadows();
    private final Model due = new Model();

    private AgainstModelTest(long seed) {
        random = new Random(seed);
    }

    public static void main(String[] args) {
        for (int seed = 0; seed < 400; seed++) {
            new AgainstModelTest(seed).run(seed, seed % 8 == 0);
        }
        Check.end("AgainstModelTest");
    }

    private void run(int seed, boolean isLarge) {
        if (isLarge) {
            both(seed, 0, "lay", 4, 4, 0, false, false);
            for (int number = 0; number < 4; number++) {
                both(seed, 0, "tell", number, random.nextInt(5), 0, true, false);
            }
        }
        for (int call = 1; call <= 150; call++) {
            String name = CALLS[random.nextInt(CALLS.length)];
            if (name.equals("lay") && (isLarge || random.nextInt(3) > 0)) {
                name = "cell";
            }
            int b = random.nextInt(10) == 0 ? random.nextInt(8) - 2 : random.nextInt(4);
            int a = random.nextInt(10) == 0 ? random.nextInt(8) - 2 : random.nextInt(4);
            int c = random.nextInt(5) - 1;
            both(seed, call, name, a, b, c, random.nextBoolean(), random.nextBoolean());
            if (call % 25 == 0) {
                both(seed, call, "digest", 0, 0, 0, false, false);
            }
        }
    }

    private void both(int seed, int call, String name, int a, int b, int c, boolean p, boolean q) {
        int cells = due.rows() * due.columns();
        int code = random.nextInt((1 << cells) + 4) - 2;
        int what = random.nextInt(16) - 1;
        int steps = random.nextInt(10) == 0 ? 49 + random.nextInt(4) : random.nextInt(6);
        int which = random.nextInt(12) - 1;
        int nth = random.nextInt(random.nextInt(4) == 0 ? 1 << cells : 8) - 1;
        String got;
        String want;
        switch (name) {
            case "lay":
                int rows = Math.min(a + 1, 5);
                int columns = b + 1 == 4 && rows == 4 ? 3 : b + 1;
                if (call == 0) {
                    rows = a;
                    columns = b;
                }
                int r = rows;
                int s = columns;
                got = Check.answer(() -> mine.lay(r, s));
                want = Check.answer(() -> due.lay(r, s));
                break;
            case "cell":
                got = Check.answer(() -> mine.cell(a, b, p));
                want = Check.answer(() -> due.cell(a, b, p));
                break;
            case "move":
                int down = random.nextInt(4) == 0 ? a - b : random.nextInt(3) - 1;
                int right = random.nextInt(4) == 0 ? b - a : random.nextInt(3) - 1;
                got = Check.answer(() -> mine.move(down, right));
                want = Check.answer(() -> due.move(down, right));
                break;
            case "over":
                got = Check.answer(() -> mine.over(p));
                want = Check.answer(() -> due.over(p));
                break;
            case "make":
                got = Check.answer(() -> mine.make(which));
                want = Check.answer(() -> due.make(which));
                break;
            case "mix":
                got = Check.answer(() -> mine.mix(steps));
                want = Check.answer(() -> due.mix(steps));
                break;
            case "tell":
                int sum = call == 0 ? b : c + random.nextInt(3) - 1;
                got = Check.answer(() -> mine.tell(p, a, sum));
                want = Check.answer(() -> due.tell(p, a, sum));
                break;
            case "take":
                got = Check.answer(() -> mine.take());
                want = Check.answer(() -> due.take());
                break;
            case "fix":
                int as = random.nextInt(3) > 0 ? Model.NONE : c;
                got = Check.answer(() -> mine.fix(a, b, as));
                want = Check.answer(() -> due.fix(a, b, as));
                break;
            case "find":
                got = Check.answer(() -> mine.find(nth));
                want = Check.answer(() -> due.find(nth));
                break;
            case "call":
                got = Check.answer(() -> mine.call());
                want = Check.answer(() -> due.call());
                break;
            case "figure":
                got = Check.answer(() -> mine.figure(what));
                want = Check.answer(() -> due.figure(what));
                break;
            case "sum":
                got = Check.answer(() -> mine.sum(p, a, q));
                want = Check.answer(() -> due.sum(p, a, q));
                break;
            case "slant":
                got = Check.answer(() -> mine.slant(p, a + b));
                want = Check.answer(() -> due.slant(p, a + b));
                break;
            case "row":
                got = Check.answer(() -> mine.row(a));
                want = Check.answer(() -> due.row(a));
                break;
            case "rule":
                got = Check.answer(() -> mine.rule());
                want = Check.answer(() -> due.rule());
                break;
            case "flow":
                got = Check.answer(() -> mine.flow(p));
                want = Check.answer(() -> due.flow(p));
                break;
            case "many":
                got = Check.answer(() -> mine.many());
                want = Check.answer(() -> due.many());
                break;
            case "nth":
                got = Check.answer(() -> mine.nth(nth));
                want = Check.answer(() -> due.nth(nth));
                break;
            case "sure":
                got = Check.answer(() -> mine.sure(a, b));
                want = Check.answer(() -> due.sure(a, b));
                break;
            case "odds":
                got = Check.answer(() -> mine.odds(a, b));
                want = Check.answer(() -> due.odds(a, b));
                break;
            case "net":
                got = Check.answer(() -> mine.net());
                want = Check.answer(() -> due.net());
                break;
            case "far":
                got = Check.answer(() -> mine.far(code));
                want = Check.answer(() -> due.far(code));
                break;
            case "joined":
                got = Check.answer(() -> mine.joined());
                want = Check.answer(() -> due.joined());
                break;
            case "best":
                got = Check.answer(() -> mine.best(p));
                want = Check.answer(() -> due.best(p));
                break;
            case "isSound":
                got = Check.answer(() -> mine.isSound());
                want = Check.answer(() -> due.isSound());
                break;
            default:
                got = Check.answer(() -> mine.digest());
                want = Check.answer(() -> due.digest());
                break;
        }
        Check.same("seed " + seed + " call " + call + " " + name, got, want);
        Check.same("seed " + seed + " call " + call + " figure(3) behind " + name, mine.figure(3), due.figure(3));
    }
}
