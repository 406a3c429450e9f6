/**
 * Long runs of calls, ordinary and wild ones, of which each must answer what the model answers.
 * The numbers that choose the calls come from a plain formula, so that each run is the same again.
 */
public final class ModelTest {
    private static final int RUNS = 3000;
    private static final int CALLS = 512;
    private static final int[] WILD = {
        -1, Integer.MIN_VALUE, Integer.MAX_VALUE, 5, 6, 19, 20, 99, 100, 199, 200, 2, 3, -2, 60, 10000, 11000
    };

    private static long seed = 1;
    private static final int[] seen = new int[40];

    private final Portinghall hall = new Portinghall();
    private final Model model = new Model();
    private final StringBuilder story = new StringBuilder();
    private final int style;
    private final int pool;

    private ModelTest(int run) {
        style = run % 6;
        pool = style == 5 ? 60 : 12 + 4 * style;
    }

    public static void main(String[] args) {
        int runs = args.length > 0 ? Integer.parseInt(args[0]) : RUNS;
        for (int run = 0; run < runs; run++) {
            seed = 7919L * (run + 1);
            ModelTest test = new ModelTest(run);
            if (!test.play(run)) {
                break;
            }
            for (int i = 0; i < seen.length; i++) {
                seen[i] = i == 31 ? Math.max(seen[i], test.model.seen[i]) : seen[i] + test.model.seen[i];
            }
        }
        if (args.length > 0) {
            System.out.println(java.util.Arrays.toString(seen));
        }
        checkCorners();
        Check.finish("ModelTest");
    }

    /** Runs that never came to a corner would prove nothing about it. */
    private static void checkCorners() {
        for (int corner : new int[] {
            0, 1, 2, 3, 4, 5, 6, 7, 8, 9, 10, 11, 12, 13, 14, 15, 16, 20, 21, 22, 23, 24, 25, 26, 27, 28, 29, 30
        }) {
            Check.note(seen[corner] > 20, "the runs came to corner " + corner + " only " + seen[corner] + " times");
        }
        Check.note(seen[31] >= 4, "no call had a long way: " + seen[31]);
    }

    private static int pick(int end) {
        seed = seed * 6364136223846793005L + 1442695040888963407L;
        return (int) Math.floorMod(seed >>> 33, (long) end);
    }

    private static int maybeWild(int value) {
        return pick(40) == 0 ? WILD[pick(WILD.length)] : value;
    }

    private boolean play(int run) {
        for (int call = 0; call < CALLS; call++) {
            int what = call < pool && pick(8) > 0 ? pick(2) : 2 + pick(60);
            if (!playOne(what)) {
                System.out.println("run " + run + ", call " + call + ":\n" + story);
                return false;
            }
        }
        return true;
    }

    private boolean same(String name, Check.Call got, Check.Call want) {
        String due = Check.outcome(want)
            .replace("throws.Index", "throws.IndexOutOfBoundsException")
            .replace("throws.Argument", "throws.IllegalArgumentException")
            .replace("throws.State", "throws.IllegalStateException");
        String answer = Check.outcome(got);
        story.append(name).append(" = ").append(due).append('\n');
        Check.is(name, answer, due);
        return answer.equals(due);
    }

    private int anyNumber() {
        return maybeWild(pick(10) == 0 ? pick(200) : pick(pool) / 4 * 10 + pick(4));
    }

    private int anyFirm() {
        return maybeWild(pick(6));
    }

    private int anyOrder() {
        int count = model.orders.size();
        return maybeWild(count == 0 ? 0 : pick(3) == 0 ? count - 1 : pick(count));
    }

    private int secretOf(int number) {
        boolean right = number >= 0 && number < 200 && pick(12) > 0;
        return maybeWild(right ? model.secrets[number] : pick(3));
    }

    private int goodMinute() {
        if (pick(12) == 0) {
            return maybeWild(model.now + pick(510) - 5);
        }
        int minute = model.now + 1 + pick(style == 3 ? 400 : style == 5 ? 200 : 130);
        // Odd styles let all orders come at full hundreds, so that these minutes fill.
        boolean waits = style % 2 == 1 || minute % 100 >= 20;
        return waits ? minute + 100 - minute % 100 : minute;
    }

    private int anyPass() {
        if (style == 4 && pick(3) > 0) {
            return maybeWild(100);
        }
        int toNext = 1000;
        for (Model.Order order : model.orders) {
            if (order.state == 1 && order.minute > model.now) {
                toNext = Math.min(toNext, order.minute - model.now);
            }
        }
        if (style == 5 && toNext > 25 && pick(3) > 0) {
            return 1;
        }
        boolean near = toNext <= 100 && pick(2) == 0;
        return maybeWild(near ? toNext : pick(3) == 0 ? 1 + pick(100) : 1 + pick(12));
    }

    private boolean playOne(int what) {
        if (what < 24) {
            return playBlocks(what);
        }
        if (what < 42) {
            return playOrders(what);
        }
        return what < 52 ? playFacts(what) : playCalls(what);
    }

    private boolean playBlocks(int what) {
        int n = anyNumber();
        int s = maybeWild(pick(3));
        int f = anyFirm();
        int b = maybeWild(pick(pool / 4 + 1));
        switch (what) {
            case 0: case 2:
                return same("give(" + b + ", " + f + ")", () -> hall.give(b, f), () -> model.give(b, f));
            case 1: case 3: case 4: case 5:
                return same("assign(" + n + ", " + s + ")", () -> hall.assign(n, s), () -> model.assign(n, s));
            case 6: case 7:
                return same("giveBack(" + b + ")", () -> hall.giveBack(b), () -> model.giveBack(b));
            case 8: case 9:
                return same("end(" + n + ")", () -> hall.end(n), () -> model.end(n));
            case 10: case 11:
                return same("swap(" + n + ", " + s + ")", () -> hall.swap(n, s), () -> model.swap(n, s));
            case 12:
                int heir = anyFirm();
                if (style % 2 == 0 && pick(4) > 0) {
                    return true;
                }
                return same("endFirm(" + f + ", " + heir + ")",
                    () -> hall.endFirm(f, heir), () -> model.endFirm(f, heir));
            case 13: case 14: case 15:
                int from = callerBeforeAnOrder(n);
                return same("emergency(" + from + ")", () -> hall.emergency(from), () -> model.emergency(from));
            default:
                return playOrder(f);
        }
    }

    /** Mostly a number whose order would come while it may be called back. */
    private int callerBeforeAnOrder(int otherwise) {
        int found = otherwise;
        for (Model.Order order : model.orders) {
            boolean soon = order.state == 1 && order.minute <= model.now + 30;
            found = soon && pick(3) > 0 ? order.number : found;
        }
        return found;
    }

    /** Mostly a number in use for which no order waits: there are but 60 orders. */
    private int orderedNumber() {
        int found = anyNumber();
        for (int tries = 0; tries < 12; tries++) {
            boolean fits = found >= 0 && found < 200 && model.serves[found] >= 0 && model.number(found, 4) < 0;
            found = fits || pick(6) == 0 ? found : anyNumber();
        }
        return found;
    }

    private boolean playOrder(int f) {
        int n = orderedNumber();
        int s = secretOf(n);
        int m = goodMinute();
        return same("order(" + f + ", " + n + ", " + s + ", " + m + ")",
            () -> hall.order(f, n, s, m), () -> model.order(f, n, s, m));
    }

    private boolean playOrders(int what) {
        int o = anyOrder();
        int f = anyFirm();
        switch (what) {
            case 24: case 25: case 26:
                return same("reverse(" + o + ")", () -> hall.reverse(o), () -> model.reverse(o));
            case 27:
                return same("cancel(" + o + ")", () -> hall.cancel(o), () -> model.cancel(o));
            case 28: case 29:
                int lag = maybeWild(pick(51));
                return same("setLag(" + f + ", " + lag + ")", () -> hall.setLag(f, lag), () -> model.setLag(f, lag));
            case 30: case 31:
                boolean down = pick(2) == 0;
                return same("setDown(" + f + ", " + down + ")",
                    () -> hall.setDown(f, down) ? 1 : 0, () -> model.setDown(f, down));
            case 32:
                return same("correct(" + f + ")", () -> hall.correct(f), () -> model.correct(f));
            default:
                int minutes = anyPass();
                return same("pass(" + minutes + ")", () -> hall.pass(minutes), () -> model.pass(minutes));
        }
    }

    private boolean playFacts(int what) {
        int n = anyNumber();
        int f = anyFirm();
        int o = anyOrder();
        int w = maybeWild(pick(7));
        switch (what) {
            case 42:
                return same("server(" + n + ")", () -> hall.server(n), () -> model.server(n));
            case 43:
                return same("serverAnew(" + n + ")", () -> hall.serverAnew(n), () -> model.server(n));
            case 44:
                return same("number(" + n + ", " + w + ")", () -> hall.number(n, w), () -> model.number(n, w));
            case 45: case 46:
                return same("of(" + o + ", " + w + ")", () -> hall.of(o, w), () -> model.of(o, w));
            case 47:
                int m = pick(3) == 0 ? maybeWild(pick(11000)) : goodMinute();
                return same("room(" + m + ")", () -> hall.room(m), () -> model.room(m));
            case 48: case 49:
                return same("firm(" + f + ", " + w + ")", () -> hall.firm(f, w), () -> model.firm(f, w));
            case 50:
                return same("known(" + f + ", " + n + ")", () -> hall.known(f, n), () -> model.known(f, n));
            default:
                return same("audit(" + f + ")", () -> hall.audit(f), () -> model.audit(f));
        }
    }

    private boolean playCalls(int what) {
        int n = anyNumber();
        int f = anyFirm();
        int way = maybeWild(pick(3));
        switch (what) {
            case 52: case 53: case 54:
                int place = maybeWild(pick(5));
                return same("hop(" + f + ", " + n + ", " + way + ", " + place + ")",
                    () -> hall.hop(f, n, way, place), () -> model.hop(f, n, way, place));
            case 55: case 56: case 57:
                return same("why(" + f + ", " + n + ", " + way + ")",
                    () -> hall.why(f, n, way), () -> model.why(f, n, way));
            case 58: case 59: case 60:
                int from = anyNumber();
                return same("dial(" + from + ", " + n + ", " + way + ")",
                    () -> hall.dial(from, n, way), () -> model.dial(from, n, way));
            default:
                return same("minute()", () -> hall.minute(), () -> model.now);
        }
    }
}
