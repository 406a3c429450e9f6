import java.util.ArrayList;
import java.util.List;

/** An object under test, that keeps its calls: a call that is refused must leave all as if it were not. */
final class Land {
    /** What is answered behind these is free. */
    static final int CALLS = 512;

    private final Portinghall x = new Portinghall();
    private final List<Act> past = new ArrayList<>();
    private Answer last;

    /** What came of a call. */
    final class Answer {
        private final String call;
        private final String outcome;
        private boolean wasDue;

        private Answer(String call, String outcome) {
            this.call = call;
            this.outcome = outcome;
        }

        void is(long due) {
            wasDue = true;
            Check.is(Edge.named(call), outcome, String.valueOf(due));
        }

        void noIndex() {
            isRefused("IndexOutOfBoundsException");
        }

        void noArgument() {
            isRefused("IllegalArgumentException");
        }

        void noState() {
            isRefused("IllegalStateException");
        }

        private void isRefused(String exception) {
            wasDue = true;
            Check.is(Edge.named(call), outcome, "throws." + exception);
            List<Act> without = past.subList(0, past.size() - 1);
            String difference = View.difference(past, without);
            Check.note(difference == null, Edge.named(call) + " changed something: " + difference);
        }
    }

    private Answer make(Act act) {
        checkSetup();
        past.add(act);
        Check.note(past.size() <= CALLS, Edge.named(act.name()) + " is one call too many");
        last = new Answer(act.name(), act.outcomeOn(x));
        return last;
    }

    /** A call of which no answer is told must at least be none that is refused. */
    private void checkSetup() {
        if (last != null && !last.wasDue && last.outcome.startsWith("throws")) {
            Check.is(Edge.named(last.call), last.outcome, "no exception");
        }
    }

    /** Questions must have left all as it was. */
    void finish() {
        checkSetup();
        List<Act> acts = new ArrayList<>();
        for (Act act : past) {
            if (!act.onlyAsks()) {
                acts.add(act);
            }
        }
        if (acts.size() < past.size()) {
            String difference = View.difference(past, acts);
            Check.note(difference == null, Edge.named("a question") + " changed something: " + difference);
        }
    }

    // ---- what many tests begin with

    /** Block 0 is 0's, with its numbers 0 to 9 in use, secret 5. */
    void withNumbers() {
        give(0, 0);
        for (int number = 0; number < 10; number++) {
            assign(number, 5);
        }
    }

    /** All orders that there can be, by which 1 wins the numbers 0 to 59 from 0: three in each minute of a window. */
    void withSixtyOrders() {
        for (int block = 0; block < 6; block++) {
            give(block, 0);
        }
        for (int number = 0; number < 60; number++) {
            assign(number, 5);
        }
        for (int order = 0; order < 60; order++) {
            order(1, order, 5, 100 + order / 3).is(order);
        }
    }

    void passTo(int minute) {
        while (x.minute() < minute) {
            pass(Math.min(100, minute - x.minute()));
        }
    }

    /** Moves a number with the secret 5 in the next minute, of which only these firms learn. */
    void move(int number, int firm, int... learners) {
        for (int other = 0; other < 6; other++) {
            boolean learns = false;
            for (int learner : learners) {
                learns |= learner == other;
            }
            setDown(other, !learns);
        }
        order(firm, number, 5, x.minute() + 1);
        pass(1).is(1);
    }

    // ---- the face

    Answer give(int block, int firm) {
        return make(Act.give(block, firm));
    }

    Answer giveBack(int block) {
        return make(Act.giveBack(block));
    }

    Answer assign(int number, int secret) {
        return make(Act.assign(number, secret));
    }

    Answer end(int number) {
        return make(Act.end(number));
    }

    Answer swap(int number, int secret) {
        return make(Act.swap(number, secret));
    }

    Answer emergency(int number) {
        return make(Act.emergency(number));
    }

    Answer endFirm(int firm, int heir) {
        return make(Act.endFirm(firm, heir));
    }

    Answer order(int firm, int number, int secret, int minute) {
        return make(Act.order(firm, number, secret, minute));
    }

    Answer cancel(int order) {
        return make(Act.cancel(order));
    }

    Answer reverse(int order) {
        return make(Act.reverse(order));
    }

    Answer pass(int minutes) {
        return make(Act.pass(minutes));
    }

    Answer setLag(int firm, int lag) {
        return make(Act.setLag(firm, lag));
    }

    Answer setDown(int firm, boolean isDown) {
        return make(Act.setDown(firm, isDown));
    }

    Answer correct(int firm) {
        return make(Act.correct(firm));
    }

    Answer server(int number) {
        return make(Act.server(number));
    }

    Answer serverAnew(int number) {
        return make(Act.serverAnew(number));
    }

    Answer number(int number, int what) {
        return make(Act.number(number, what));
    }

    Answer of(int order, int what) {
        return make(Act.of(order, what));
    }

    Answer room(int minute) {
        return make(Act.room(minute));
    }

    Answer firm(int firm, int what) {
        return make(Act.firm(firm, what));
    }

    Answer known(int firm, int number) {
        return make(Act.known(firm, number));
    }

    Answer audit(int firm) {
        return make(Act.audit(firm));
    }

    Answer hop(int firm, int number, int way, int place) {
        return make(Act.hop(firm, number, way, place));
    }

    Answer why(int firm, int number, int way) {
        return make(Act.why(firm, number, way));
    }

    Answer dial(int from, int number, int way) {
        return make(Act.dial(from, number, way));
    }

    Answer minute() {
        return make(Act.minute());
    }
}
