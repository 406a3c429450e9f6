import java.util.ArrayList;
import java.util.List;

/**
 * All that an object answers behind some calls, and all that comes of it later. Each question is put
 * to an object on which these calls are made anew, so that none is asked for more than its 512 calls.
 */
final class View {
    private final List<Act> past;
    private final int room;
    private final int orders;
    private final List<String> lines = new ArrayList<>();

    /** At most so many questions are put to one object, and so many orders are asked for. */
    private View(List<Act> past, int room, int orders) {
        this.past = past;
        this.room = room;
        this.orders = orders;
    }

    /** The first answer that is not the same, told as "got, due is", or null. */
    static String difference(List<Act> past, List<Act> duePast) {
        int room = Land.CALLS - Math.max(past.size(), duePast.size());
        // With less room it would take too many objects to ask for all.
        if (room < 10) {
            return null;
        }
        int orders = Math.max(countOrders(past), countOrders(duePast));
        List<String> got = new View(past, room, orders).answers();
        List<String> due = new View(duePast, room, orders).answers();
        for (int i = 0; i < due.size(); i++) {
            if (!got.get(i).equals(due.get(i))) {
                return got.get(i) + ", due is " + due.get(i);
            }
        }
        return null;
    }

    /** One more than there can be, so that it is seen if a call that was refused became an order. */
    private static int countOrders(List<Act> past) {
        int count = 1;
        for (Act act : past) {
            count += act.name().startsWith("order(") ? 1 : 0;
        }
        return count;
    }

    private List<String> answers() {
        List<Act> facts = facts();
        for (int from = 0; from < facts.size(); from += room) {
            ask(facts.subList(from, Math.min(facts.size(), from + room)));
        }
        for (List<Act> future : futures()) {
            ask(future.subList(0, Math.min(room, future.size())));
        }
        return lines;
    }

    private static Portinghall replay(List<Act> acts) {
        Portinghall x = new Portinghall();
        for (Act act : acts) {
            act.outcomeOn(x);
        }
        return x;
    }

    private void ask(List<Act> questions) {
        Portinghall x = replay(past);
        for (Act question : questions) {
            lines.add(question.name() + " = " + question.outcomeOn(x));
        }
    }

    private List<Act> facts() {
        List<Act> facts = new ArrayList<>();
        int now = replay(past).minute();
        facts.add(Act.minute());
        addFirms(facts);
        addOrders(facts);
        for (int number = 0; number < 200; number++) {
            facts.add(Act.server(number));
            facts.add(Act.serverAnew(number));
            for (int what = 0; what < 5; what++) {
                facts.add(Act.number(number, what));
            }
            for (int firm = 0; firm < 6; firm++) {
                facts.add(Act.known(firm, number));
            }
        }
        for (int minute = now; minute < now + 620; minute++) {
            if (minute % 100 < 20) {
                facts.add(Act.room(minute));
            }
        }
        return facts;
    }

    private static void addFirms(List<Act> to) {
        for (int firm = 0; firm < 6; firm++) {
            for (int what = 0; what < 7; what++) {
                to.add(Act.firm(firm, what));
            }
            to.add(Act.audit(firm));
        }
    }

    private void addOrders(List<Act> to) {
        for (int order = 0; order < orders; order++) {
            for (int what = 0; what < 6; what++) {
                to.add(Act.of(order, what));
            }
        }
    }

    /** Acts that show what no question shows: secrets, what can be turned back, and what minutes bring. */
    private List<List<Act>> futures() {
        List<List<Act>> futures = new ArrayList<>();
        List<Act> swaps = new ArrayList<>();
        List<Act> backs = new ArrayList<>();
        List<Act> ends = new ArrayList<>();
        for (int number = 0; number < 200; number++) {
            swaps.add(Act.swap(number, 0));
            ends.add(Act.end(number));
        }
        for (int order = orders - 1; order >= 0; order--) {
            backs.add(Act.reverse(order));
            backs.add(Act.cancel(order));
        }
        addFirms(backs);
        futures.add(swaps);
        futures.add(ends);
        futures.add(backs);
        for (int minutes : new int[] {1, 10, 30, 31, 49, 50, 99, 100}) {
            List<Act> later = new ArrayList<>();
            later.add(Act.pass(minutes));
            addFirms(later);
            addOrders(later);
            futures.add(later);
        }
        return futures;
    }
}
