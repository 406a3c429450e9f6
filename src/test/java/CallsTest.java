/** Promises 24 to 27: calls through tables, where they end and why, and what they cost. */
public final class CallsTest {
    private static final int LOW = Integer.MIN_VALUE;
    private static final int HIGH = Integer.MAX_VALUE;
    private static final int A = Portinghall.ALL_CALL;
    private static final int O = Portinghall.ONWARD;
    private static final int D = Portinghall.DROP_BACK;

    public static void main(String[] args) {
        endsOfTheRoad();
        chain();
        holderThatKnowsMore();
        loopOfTwo();
        throughAllFirms();
        loopBackFromTheHolder();
        stuckAtATable();
        stuckBehindDropBack();
        stuckAtOneThatIsGone();
        promise24Faults();
        promise25Faults();
        promise26Faults();
        promise26Accounts();
        promise26Endings();
        promise27Minute();
        Check.finish("CallsTest");
    }

    /** 0 holds block 0, 5 holds block 5; their numbers 3 and 50 are in use. */
    private static Portinghall land() {
        Portinghall x = new Portinghall();
        x.give(0, 0);
        x.give(5, 5);
        x.assign(3, 5);
        x.assign(50, 7);
        return x;
    }

    /** Moves the number 3 in the next minute, of which only some firms learn. */
    private static void move(Portinghall x, int firm, int... learners) {
        for (int other = 0; other < 6; other++) {
            x.setDown(other, true);
        }
        for (int learner : learners) {
            x.setDown(learner, false);
        }
        x.order(firm, 3, 5, x.minute() + 1);
        Check.is("a move to " + firm, x.pass(1), 1);
    }

    /** What the call is, by why and by hop. */
    private static void goes(String what, Portinghall x, int from, int number, int way, int ending, int... hops) {
        // The last one first, so that no call ahead of it can have left it there.
        int last = hops.length - 1;
        Check.is(what + ": last hop", x.hop(from, number, way, last), hops[last]);
        Check.is(what + ": why", x.why(from, number, way), ending);
        for (int place = 0; place < 9; place++) {
            Check.is(what + ": hop " + place, x.hop(from, number, way, place),
                place < hops.length ? hops[place] : Portinghall.NONE);
        }
        Check.is(what + ": far hop", x.hop(from, number, way, HIGH), Portinghall.NONE);
    }

    private static void endsOfTheRoad() {
        Portinghall x = land();
        x.endFirm(4, 1);
        for (int way = A; way <= D; way++) {
            goes("no block", x, 2, 100, way, Portinghall.NO_BLOCK, 2);
            goes("no block, from one that is gone", x, 4, 100, way, Portinghall.NO_BLOCK, 4);
            goes("not in use", x, 2, 4, way, Portinghall.NOT_IN_USE, 2, 0);
            goes("not in use, from its holder", x, 0, 4, way, Portinghall.NOT_IN_USE, 0);
            goes("not in use, from one that is gone", x, 4, 4, way, Portinghall.NOT_IN_USE, 4, 0);
            goes("at home", x, 0, 3, way, Portinghall.ARRIVED, 0);
            goes("to the holder", x, 2, 3, way, Portinghall.ARRIVED, 2, 0);
            goes("from one that is gone", x, 4, 3, way, Portinghall.STUCK, 4);
        }
    }

    /** Table of 5: 1; of 1: 2; of 2: 3; of 0 and 4: nothing; 3 serves. */
    private static Portinghall chained() {
        Portinghall x = land();
        move(x, 1, 5);
        move(x, 2, 1);
        move(x, 3, 2);
        return x;
    }

    private static void chain() {
        Portinghall x = chained();
        goes("all call", x, 5, 3, A, Portinghall.ARRIVED, 5, 1, 2, 3);
        goes("all call on the way", x, 1, 3, A, Portinghall.ARRIVED, 1, 2, 3);
        goes("all call from the server", x, 3, 3, A, Portinghall.ARRIVED, 3);
        goes("onward, where the holder knows nothing", x, 5, 3, O, Portinghall.STUCK, 5, 0);
        goes("drop back", x, 5, 3, D, Portinghall.ARRIVED, 5, 0, 1, 2, 3);
        goes("onward from the server", x, 3, 3, O, Portinghall.ARRIVED, 3);
        goes("drop back from the server", x, 3, 3, D, Portinghall.ARRIVED, 3);
    }

    private static void holderThatKnowsMore() {
        Portinghall x = chained();
        x.correct(0);
        goes("onward", x, 5, 3, O, Portinghall.ARRIVED, 5, 0, 3);
        goes("drop back does not ask the holder", x, 5, 3, D, Portinghall.ARRIVED, 5, 0, 1, 2, 3);
        for (int way = A; way <= D; way++) {
            goes("from the holder", x, 0, 3, way, Portinghall.ARRIVED, 0, 3);
        }
        Portinghall y = land();
        move(y, 1, 0, 4);
        move(y, 2, 1);
        goes("onward, from the holder on by tables", y, 4, 3, O, Portinghall.ARRIVED, 4, 0, 1, 2);
        goes("drop back from the holder is by tables", y, 0, 3, D, Portinghall.ARRIVED, 0, 1, 2);
        goes("onward from the holder is by tables", y, 0, 3, O, Portinghall.ARRIVED, 0, 1, 2);
    }

    /** Table of 5: 1; of 1: 2; of 2: 1; 3 serves. */
    private static void loopOfTwo() {
        Portinghall x = land();
        move(x, 1, 5);
        move(x, 2, 1);
        move(x, 1, 2);
        move(x, 3);
        goes("a loop", x, 5, 3, A, Portinghall.LOOP, 5, 1, 2, 1);
        goes("a loop from within", x, 1, 3, A, Portinghall.LOOP, 1, 2, 1);
        goes("a loop behind the holder", x, 5, 3, D, Portinghall.LOOP, 5, 0, 1, 2, 1);
    }

    /** Table of each firm names the next one; at last 4 serves, or, by one move more, none of them. */
    private static void throughAllFirms() {
        Portinghall x = land();
        move(x, 1, 5);
        move(x, 2, 1);
        move(x, 3, 2);
        move(x, 4, 3);
        goes("by all firms", x, 5, 3, D, Portinghall.ARRIVED, 5, 0, 1, 2, 3, 4);
        dials("by all firms", x, 3, D, Portinghall.ARRIVED, 1, 1, 1, 1, 3, -7);
        Portinghall y = land();
        move(y, 1, 0);
        move(y, 2, 1);
        move(y, 3, 2);
        move(y, 4, 3);
        move(y, 1, 4);
        move(y, 2);
        goes("a loop behind the holder", y, 5, 3, O, Portinghall.ARRIVED, 5, 0, 1, 2);
        move(y, 5);
        goes("from the server at once", y, 5, 3, O, Portinghall.ARRIVED, 5);
        goes("a loop of four", y, 0, 3, O, Portinghall.LOOP, 0, 1, 2, 3, 4, 1);
    }

    private static void loopBackFromTheHolder() {
        Portinghall x = land();
        move(x, 5, 0);
        move(x, 1, 5);
        goes("the holder sends it back", x, 5, 3, O, Portinghall.LOOP, 5, 0, 5);
        goes("by the table of the first one", x, 5, 3, D, Portinghall.ARRIVED, 5, 0, 1);
        goes("all call", x, 5, 3, A, Portinghall.ARRIVED, 5, 1);
        goes("from the holder", x, 0, 3, O, Portinghall.ARRIVED, 0, 5, 1);
        Portinghall y = land();
        move(y, 4, 0);
        move(y, 2, 4);
        move(y, 0, 2);
        move(y, 1);
        goes("back to the holder", y, 5, 3, O, Portinghall.LOOP, 5, 0, 4, 2, 0);
    }

    private static void stuckAtATable() {
        Portinghall x = land();
        move(x, 1, 5, 1);
        move(x, 3);
        goes("it would be with the firm of the hop", x, 5, 3, A, Portinghall.STUCK, 5, 1);
        goes("at the first hop", x, 1, 3, A, Portinghall.STUCK, 1);
        goes("at the holder", x, 4, 3, A, Portinghall.STUCK, 4, 0);
        goes("at the holder, which is the first hop", x, 0, 3, O, Portinghall.STUCK, 0);
        goes("drop back from the holder itself", x, 0, 3, D, Portinghall.STUCK, 0);
        goes("behind the holder", x, 5, 3, D, Portinghall.STUCK, 5, 0, 1);
    }

    private static void stuckBehindDropBack() {
        Portinghall x = land();
        move(x, 5, 5);
        move(x, 1, 0);
        goes("the table of the first hop names the first hop", x, 5, 3, D, Portinghall.STUCK, 5, 0);
        goes("the table of the first hop names the holder", x, 4, 3, D, Portinghall.STUCK, 4, 0);
        goes("the holder would know", x, 4, 3, O, Portinghall.ARRIVED, 4, 0, 1);
        goes("all call", x, 5, 3, A, Portinghall.STUCK, 5);
    }

    private static void stuckAtOneThatIsGone() {
        Portinghall x = land();
        move(x, 1, 4, 1);
        x.endFirm(1, 2);
        goes("at one that is gone", x, 4, 3, A, Portinghall.STUCK, 4, 1);
        goes("behind the holder", x, 4, 3, D, Portinghall.STUCK, 4, 0, 1);
        x.correct(1);
        goes("though its table is right", x, 4, 3, A, Portinghall.STUCK, 4, 1);
        goes("from it", x, 1, 3, O, Portinghall.STUCK, 1);
    }

    private static void promise24Faults() {
        Portinghall x = land();
        for (int bad : new int[] {-1, 6, LOW, HIGH}) {
            Check.noIndex("hop from " + bad, () -> x.hop(bad, 3, 3, 0));
        }
        for (int bad : new int[] {-1, 200, LOW, HIGH}) {
            Check.noIndex("hop to " + bad, () -> x.hop(0, bad, 3, 0));
        }
        for (int bad : new int[] {-1, LOW}) {
            Check.noIndex("hop at place " + bad, () -> x.hop(0, 3, A, bad));
            Check.noIndex("hop at place and way " + bad, () -> x.hop(0, 3, bad, bad));
        }
        for (int bad : new int[] {-1, 3, LOW, HIGH}) {
            Check.noArgument("hop by way " + bad, () -> x.hop(0, 3, bad, 0));
            Check.noArgument("far hop by way " + bad, () -> x.hop(0, 3, bad, 99));
        }
    }

    private static void promise25Faults() {
        Portinghall x = land();
        for (int bad : new int[] {-1, 6, LOW, HIGH}) {
            Check.noIndex("why from " + bad, () -> x.why(bad, 3, 3));
        }
        for (int bad : new int[] {-1, 200, LOW, HIGH}) {
            Check.noIndex("why to " + bad, () -> x.why(0, bad, 3));
        }
        for (int bad : new int[] {-1, 3, LOW, HIGH}) {
            Check.noArgument("why by way " + bad, () -> x.why(0, 3, bad));
        }
    }

    private static void promise26Faults() {
        Portinghall x = land();
        for (int bad : new int[] {-1, 200, LOW, HIGH}) {
            Check.noIndex("dial from " + bad, () -> x.dial(bad, 3, 3));
            Check.noIndex("dial to " + bad, () -> x.dial(4, bad, 3));
        }
        for (int bad : new int[] {-1, 3, LOW, HIGH}) {
            Check.noArgument("dial by way " + bad, () -> x.dial(3, 50, bad));
            Check.noArgument("dial unused by way " + bad, () -> x.dial(4, 50, bad));
        }
        Check.noState("dial from one that is not in use", () -> x.dial(4, 3, A));
        Check.is("nobody paid", x.firm(0, 5), 0);
    }

    private static int[] accounts(Portinghall x) {
        int[] accounts = new int[6];
        for (int firm = 0; firm < 6; firm++) {
            accounts[firm] = x.firm(firm, 5);
        }
        return accounts;
    }

    private static void dials(String what, Portinghall x, int number, int way, int ending, int... paid) {
        int[] before = accounts(x);
        int endingBefore = x.why(5, number, way);
        Check.is(what + ": nobody pays for asking", java.util.Arrays.equals(before, accounts(x)), true);
        Check.is(what + ": dial", x.dial(50, number, way), ending);
        Check.is(what + ": why ahead of that", endingBefore, ending);
        for (int firm = 0; firm < 6; firm++) {
            Check.is(what + ": account of " + firm, x.firm(firm, 5) - before[firm], paid[firm]);
        }
    }

    private static void promise26Accounts() {
        Portinghall x = chained();
        dials("all call", x, 3, A, Portinghall.ARRIVED, 0, 1, 1, 3, 0, -5);
        dials("drop back", x, 3, D, Portinghall.ARRIVED, 1, 1, 1, 3, 0, -6);
        dials("onward", x, 3, O, Portinghall.STUCK, 0, 0, 0, 0, 0, 0);
        x.correct(5);
        dials("straight", x, 3, A, Portinghall.ARRIVED, 0, 0, 0, 3, 0, -3);
        dials("within the firm", x, 50, A, Portinghall.ARRIVED, 0, 0, 0, 0, 0, 0);
        x.order(1, 50, 7, 10);
        x.pass(20);
        Check.is("from the firm that serves it by then", x.dial(50, 50, A), Portinghall.ARRIVED);
        int before = x.firm(1, 5);
        x.setDown(1, false);
        x.pass(1);
        Check.is("it dials from 1", x.dial(50, 3, A), Portinghall.ARRIVED);
        Check.is("so 1 pays", x.firm(1, 5) - before, -3);
    }

    private static void promise26Endings() {
        Portinghall x = land();
        dials("no block", x, 100, A, Portinghall.NO_BLOCK, 0, 0, 0, 0, 0, 0);
        dials("not in use", x, 4, O, Portinghall.NOT_IN_USE, 0, 0, 0, 0, 0, 0);
        move(x, 1, 5);
        move(x, 2, 1);
        move(x, 1, 2);
        move(x, 3);
        dials("a loop", x, 3, A, Portinghall.LOOP, 0, 0, 0, 0, 0, 0);
        dials("stuck", x, 3, O, Portinghall.STUCK, 0, 0, 0, 0, 0, 0);
    }

    private static void promise27Minute() {
        Portinghall x = land();
        Check.is("at first", x.minute(), 0);
        x.pass(100);
        x.pass(1);
        Check.is("a hundred and one later", x.minute(), 101);
        Check.noArgument("too many", () -> x.pass(101));
        Check.is("still", x.minute(), 101);
    }
}
