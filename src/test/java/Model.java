import java.util.ArrayList;
import java.util.List;

/**
 * The document once more, as plainly as can be and by other means than the program: it keeps when
 * things began instead of how long they last, compares the land ahead of an act with the land behind
 * it to find the changes, and reads a table by going back along the row of changes.
 */
final class Model {
    static final class Index extends RuntimeException { }

    static final class Argument extends RuntimeException { }

    static final class State extends RuntimeException { }

    private static final int LONG_AGO = -1000;

    static final class Order {
        int state;
        int reason;
        int number;
        int winner;
        int donor;
        int minute;
        boolean overtaken;
    }

    static final class Change {
        int minute;
        int number;
        int place;
    }

    final int[] holder = new int[20];
    final boolean[] gone = new boolean[6];
    final boolean[] down = new boolean[6];
    final int[] lag = new int[6];
    final int[] account = new int[6];
    final int[] knows = new int[6];
    final int[] serves = new int[200];
    final int[] secrets = new int[200];
    final int[] ended = new int[200];
    final int[] swapped = new int[200];
    final int[] rang = new int[200];
    final List<Order> orders = new ArrayList<>();
    final List<Change> changes = new ArrayList<>();
    int now = 0;

    /** What the soak wants to know, to be sure that it came to all corners. */
    final int[] seen = new int[40];

    Model() {
        java.util.Arrays.fill(holder, -1);
        java.util.Arrays.fill(serves, -1);
        java.util.Arrays.fill(ended, LONG_AGO);
        java.util.Arrays.fill(swapped, LONG_AGO);
        java.util.Arrays.fill(rang, LONG_AGO);
    }

    // ---- faults

    private static void index(int value, int end) {
        if (value < 0 || value >= end) {
            throw new Index();
        }
    }

    private static void argument(boolean good) {
        if (!good) {
            throw new Argument();
        }
    }

    private static void state(boolean good) {
        if (!good) {
            throw new State();
        }
    }

    // ---- what is so

    private boolean used(int n) {
        return serves[n] >= 0;
    }

    private boolean quarantined(int n) {
        return !used(n) && now - ended[n] < 100;
    }

    private boolean silent(int n) {
        return used(n) && now - swapped[n] < 50;
    }

    private boolean callable(int n) {
        return used(n) && now - rang[n] <= 30;
    }

    private int waitingAt(int minute) {
        return (int) orders.stream().filter(o -> o.state == 1 && o.minute == minute).count();
    }

    private int place(int firm, int n) {
        int h = holder[n / 10];
        if (h < 0) {
            return -1;
        }
        for (int i = knows[firm] - 1; i >= 0; i--) {
            Change c = changes.get(i);
            if (c.number == n) {
                return c.place == 6 ? h : c.place;
            }
        }
        return h;
    }

    /** Finds the changes of an act from the land ahead of it. */
    private void publish(int[] servedBefore, int[] heldBefore, boolean firmEnded, int heir) {
        for (int n = 0; n < 200; n++) {
            int before = servedBefore[n];
            int after = serves[n];
            int h = holder[n / 10];
            boolean wasAway = before != heldBefore[n / 10];
            if (before < 0) {
                continue;
            }
            if (after < 0) {
                if (wasAway) {
                    change(n, 6);
                }
            } else if (firmEnded && after == heir && h == heir) {
                if (wasAway) {
                    change(n, 6);
                    seen[before == heir ? 20 : 21]++;
                } else if (before != after) {
                    seen[22]++;
                }
            } else if (before != after) {
                change(n, after == h ? 6 : after);
                seen[firmEnded ? 23 : 24]++;
            }
        }
    }

    private void change(int n, int place) {
        Change c = new Change();
        c.minute = now;
        c.number = n;
        c.place = place;
        changes.add(c);
    }

    private void overtake(int n) {
        for (Order o : orders) {
            if (o.number == n) {
                o.overtaken = true;
            }
        }
    }

    private void cancelWhere(java.util.function.Predicate<Order> which) {
        for (Order o : orders) {
            if (o.state == 1 && which.test(o)) {
                o.state = 3;
                seen[25]++;
            }
        }
    }

    // ---- the calls

    int give(int block, int firm) {
        index(block, 20);
        index(firm, 6);
        state(holder[block] < 0 && !gone[firm]);
        holder[block] = firm;
        return held(firm);
    }

    private int held(int firm) {
        return (int) java.util.Arrays.stream(holder).filter(h -> h == firm).count();
    }

    int giveBack(int block) {
        index(block, 20);
        state(holder[block] >= 0);
        for (int n = 0; n < 200; n++) {
            state(n / 10 != block || !used(n) && !quarantined(n));
        }
        int was = holder[block];
        holder[block] = -1;
        return was;
    }

    int assign(int n, int secret) {
        index(n, 200);
        argument(secret >= 0 && secret <= 99);
        state(holder[n / 10] >= 0);
        state(!used(n) && !quarantined(n));
        serves[n] = holder[n / 10];
        secrets[n] = secret;
        swapped[n] = LONG_AGO;
        rang[n] = LONG_AGO;
        return serves[n];
    }

    int end(int n) {
        index(n, 200);
        state(used(n));
        int[] before = serves.clone();
        serves[n] = -1;
        ended[n] = now;
        cancelWhere(o -> o.number == n);
        overtake(n);
        publish(before, holder, false, -1);
        return before[n];
    }

    int swap(int n, int secret) {
        index(n, 200);
        argument(secret >= 0 && secret <= 99);
        state(used(n));
        int was = secrets[n];
        secrets[n] = secret;
        swapped[n] = now;
        return was;
    }

    int emergency(int n) {
        index(n, 200);
        state(used(n));
        rang[n] = now;
        return now + 30;
    }

    int endFirm(int firm, int heir) {
        index(firm, 6);
        index(heir, 6);
        argument(firm != heir);
        state(!gone[firm] && !gone[heir]);
        int[] before = serves.clone();
        int[] heldBefore = holder.clone();
        gone[firm] = true;
        for (int b = 0; b < 20; b++) {
            holder[b] = holder[b] == firm ? heir : holder[b];
        }
        int count = 0;
        for (int n = 0; n < 200; n++) {
            if (serves[n] == firm) {
                serves[n] = heir;
                overtake(n);
                count++;
            }
        }
        cancelWhere(o -> o.winner == firm);
        publish(before, heldBefore, true, heir);
        return count;
    }

    int order(int firm, int n, int secret, int minute) {
        index(firm, 6);
        index(n, 200);
        argument(secret >= 0 && secret <= 99);
        argument(minute >= now + 1L && minute <= now + 500L);
        state(!gone[firm] && orders.size() < 60);
        Order o = new Order();
        o.number = n;
        o.winner = firm;
        o.donor = serves[n];
        o.minute = minute;
        boolean[] reasons = {
            false,
            !used(n),
            serves[n] == firm,
            secrets[n] != secret,
            orders.stream().anyMatch(p -> p.state == 1 && p.number == n),
            silent(n),
            minute % 100 > 19,
            waitingAt(minute) == 3
        };
        for (int r = 7; r > 0; r--) {
            o.reason = reasons[r] ? r : o.reason;
        }
        o.state = o.reason == 0 ? 1 : 0;
        seen[o.reason]++;
        orders.add(o);
        return orders.size() - 1;
    }

    int cancel(int order) {
        index(order, orders.size());
        Order o = orders.get(order);
        state(o.state == 1 && o.minute >= now + 10);
        o.state = 3;
        seen[8]++;
        return (int) orders.stream().filter(p -> p.state == 1).count();
    }

    int reverse(int order) {
        index(order, orders.size());
        Order o = orders.get(order);
        state(o.state == 2);
        if (now > o.minute + 60) {
            seen[9]++;
            throw new State();
        }
        if (o.overtaken || !used(o.number)) {
            seen[10]++;
            throw new State();
        }
        if (gone[o.donor]) {
            seen[11]++;
            throw new State();
        }
        int[] before = serves.clone();
        o.state = 4;
        serves[o.number] = o.donor;
        account[o.donor] -= 5;
        account[o.winner] += 5;
        publish(before, holder, false, -1);
        seen[12]++;
        return o.donor;
    }

    int pass(int minutes) {
        argument(minutes >= 1 && minutes <= 100);
        state(now + minutes < 10000);
        int done = 0;
        for (int end = now + minutes; now < end;) {
            now++;
            for (Order o : orders) {
                if (o.state == 1 && o.minute == now) {
                    done += due(o);
                }
            }
            for (int f = 0; f < 6; f++) {
                for (int i = knows[f]; !down[f] && i < changes.size(); i++) {
                    if (changes.get(i).minute <= now - lag[f]) {
                        knows[f] = i + 1;
                    }
                }
            }
        }
        return done;
    }

    private int due(Order o) {
        if (callable(o.number)) {
            int later = o.minute + 100;
            while (waitingAt(later) == 3) {
                later += 100;
                seen[14]++;
            }
            o.minute = later;
            seen[13]++;
            return 0;
        }
        if (serves[o.number] == o.winner) {
            o.state = 3;
            seen[15]++;
            return 0;
        }
        int[] before = serves.clone();
        overtake(o.number);
        o.overtaken = false;
        o.state = 2;
        o.donor = serves[o.number];
        serves[o.number] = o.winner;
        account[o.winner] -= 5;
        account[o.donor] += 5;
        publish(before, holder, false, -1);
        seen[16]++;
        return 1;
    }

    int setLag(int firm, int value) {
        index(firm, 6);
        argument(value >= 0 && value <= 50);
        int was = lag[firm];
        lag[firm] = value;
        return was;
    }

    int setDown(int firm, boolean value) {
        index(firm, 6);
        boolean was = down[firm];
        down[firm] = value;
        return was ? 1 : 0;
    }

    int correct(int firm) {
        index(firm, 6);
        int was = knows[firm];
        knows[firm] = changes.size();
        return knows[firm] - was;
    }

    int server(int n) {
        index(n, 200);
        return serves[n];
    }

    int number(int n, int what) {
        index(n, 200);
        argument(what >= 0 && what <= 4);
        int waits = -1;
        for (int i = 0; i < orders.size(); i++) {
            waits = orders.get(i).state == 1 && orders.get(i).number == n ? i : waits;
        }
        return new int[] {
            holder[n / 10], quarantined(n) ? 1 : 0, silent(n) ? 1 : 0, callable(n) ? 1 : 0, waits
        }[what];
    }

    int of(int order, int what) {
        index(order, orders.size());
        argument(what >= 0 && what <= 5);
        Order o = orders.get(order);
        return new int[] {o.state, o.reason, o.number, o.winner, o.donor, o.minute}[what];
    }

    int room(int minute) {
        argument(minute >= 0 && minute <= 10999);
        return minute % 100 < 20 && minute > now ? 3 - waitingAt(minute) : 0;
    }

    int firm(int firm, int what) {
        index(firm, 6);
        argument(what >= 0 && what <= 6);
        int served = (int) java.util.Arrays.stream(serves).filter(s -> s == firm).count();
        return new int[] {
            gone[firm] ? 1 : 0, held(firm), served, down[firm] ? 1 : 0, lag[firm], account[firm],
            changes.size() - knows[firm]
        }[what];
    }

    int known(int firm, int n) {
        index(firm, 6);
        index(n, 200);
        return place(firm, n);
    }

    int audit(int firm) {
        index(firm, 6);
        int wrong = 0;
        for (int n = 0; n < 200; n++) {
            wrong += used(n) && place(firm, n) != serves[n] ? 1 : 0;
        }
        return wrong;
    }

    /** The hops, and behind them how the call ends. */
    private List<Integer> call(int firm, int n, int way) {
        List<Integer> hops = new ArrayList<>(List.of(firm));
        int h = holder[n / 10];
        int ending;
        if (h < 0) {
            ending = 1;
        } else if (!used(n)) {
            if (h != firm) {
                hops.add(h);
            }
            ending = 2;
        } else {
            ending = go(hops, n, way, h);
        }
        hops.add(ending);
        return hops;
    }

    private int go(List<Integer> hops, int n, int way, int h) {
        int at = hops.get(hops.size() - 1);
        if (serves[n] == at) {
            return 0;
        }
        if (gone[at]) {
            return 4;
        }
        int next = place(at, n);
        if (hops.size() == 1 && way > 0 && h != at) {
            next = h;
        }
        if (hops.size() == 2 && way == 2 && h == at) {
            next = place(hops.get(0), n);
            if (next == hops.get(0)) {
                return 4;
            }
        }
        if (next == at) {
            return 4;
        }
        boolean again = hops.contains(next);
        hops.add(next);
        return again ? 3 : go(hops, n, way, h);
    }

    int hop(int firm, int n, int way, int place) {
        index(firm, 6);
        index(n, 200);
        index(place < 0 ? -1 : 0, 1);
        argument(way >= 0 && way <= 2);
        List<Integer> hops = call(firm, n, way);
        return place < hops.size() - 1 ? hops.get(place) : -1;
    }

    int why(int firm, int n, int way) {
        index(firm, 6);
        index(n, 200);
        argument(way >= 0 && way <= 2);
        List<Integer> hops = call(firm, n, way);
        int ending = hops.get(hops.size() - 1);
        seen[26 + ending]++;
        return ending;
    }

    int dial(int from, int n, int way) {
        index(from, 200);
        index(n, 200);
        argument(way >= 0 && way <= 2);
        state(used(from));
        List<Integer> hops = call(serves[from], n, way);
        int ending = hops.remove(hops.size() - 1);
        int payer = hops.get(0);
        for (int i = 1; ending == 0 && i < hops.size(); i++) {
            int fee = i == hops.size() - 1 ? 3 : 1;
            account[payer] -= fee;
            account[hops.get(i)] += fee;
            seen[31] = Math.max(seen[31], hops.size());
        }
        return ending;
    }
}
