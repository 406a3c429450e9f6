import java.util.Arrays;

/** A land's telephone numbers that people take along from firm to firm. */
public final class Portinghall {
    public static final int NONE = -1;
    public static final int HOME = 6;
    public static final int REJECTED = 0, WAITING = 1, DONE = 2, CANCELLED = 3, REVERSED = 4;
    public static final int ALL_CALL = 0, ONWARD = 1, DROP_BACK = 2;
    public static final int ARRIVED = 0, NO_BLOCK = 1, NOT_IN_USE = 2, LOOP = 3, STUCK = 4;

    private static final int FIRMS = 6;
    private static final int BLOCKS = 20;
    private static final int BLOCK_SIZE = 10;
    private static final int NUMBERS = 200;
    private static final int SECRETS = 100;
    private static final int LAST_MINUTE = 9999;
    private static final int LAST_ROOM_MINUTE = 10999;
    private static final int LONGEST_PASS = 100;
    private static final int LONGEST_LAG = 50;
    private static final int LONGEST_WAIT = 500;

    private static final int QUARANTINE_LASTS = 99;
    private static final int SILENCE_LASTS = 49;
    private static final int CALL_BACK_LASTS = 30;

    private static final int WINDOW_EVERY = 100;
    private static final int WINDOW_LENGTH = 20;
    private static final int ORDERS_A_MINUTE = 3;
    private static final int MAX_ORDERS = 60;
    private static final int CANCEL_AHEAD = 10;
    private static final int REVERSE_WITHIN = 60;

    private static final int PORTING_FEE = 5;
    private static final int ARRIVAL_FEE = 3;
    private static final int TRANSIT_FEE = 1;

    private static final int NUMBER_FACTS = 5;
    private static final int ORDER_FACTS = 6;
    private static final int FIRM_FACTS = 7;

    private final int[] holders = new int[BLOCKS];
    private final Firms firms = new Firms();
    private final Contracts contracts = new Contracts();
    private final Orders orders = new Orders();
    private final Centre centre = new Centre();
    private final History history = new History();
    private final Route route = new Route();
    private int now = 0;

    public Portinghall() {
        Arrays.fill(holders, NONE);
    }

    // ---- blocks, contracts

    public int give(int block, int firm) throws IndexOutOfBoundsException, IllegalStateException {
        if (!isBlock(block) || !isFirm(firm)) {
            throw new IndexOutOfBoundsException("no such block or firm");
        }
        if (holders[block] != NONE || firms.gone[firm]) {
            throw new IllegalStateException("the block is given, or the firm is gone");
        }
        holders[block] = firm;
        return countBlocksOf(firm);
    }

    public int giveBack(int block) throws IndexOutOfBoundsException, IllegalStateException {
        if (!isBlock(block)) {
            throw new IndexOutOfBoundsException("no such block");
        }
        if (holders[block] == NONE || isBlockBusy(block)) {
            throw new IllegalStateException("the block is not given, or one of its numbers is not free");
        }
        int holder = holders[block];
        holders[block] = NONE;
        return holder;
    }

    public int assign(int number, int secret)
            throws IndexOutOfBoundsException, IllegalArgumentException, IllegalStateException {
        requireNumber(number);
        requireSecret(secret);
        int holder = holderOf(number);
        if (holder == NONE || contracts.isInUse(number) || contracts.isInQuarantine(number, now)) {
            throw new IllegalStateException("the block is not given, or the number is not free");
        }
        contracts.begin(number, holder, secret);
        history.serves(number, holder);
        return holder;
    }

    public int end(int number) throws IndexOutOfBoundsException, IllegalStateException {
        requireNumber(number);
        requireInUse(number);
        int served = contracts.server[number];
        contracts.finish(number, now);
        history.serves(number, NONE);
        orders.cancelFor(number);
        if (served != holderOf(number)) {
            centre.add(now, number, HOME);
        }
        return served;
    }

    public int swap(int number, int secret)
            throws IndexOutOfBoundsException, IllegalArgumentException, IllegalStateException {
        requireNumber(number);
        requireSecret(secret);
        requireInUse(number);
        int before = contracts.secret[number];
        contracts.secret[number] = secret;
        contracts.silentUntil[number] = now + SILENCE_LASTS;
        return before;
    }

    public int emergency(int number) throws IndexOutOfBoundsException, IllegalStateException {
        requireNumber(number);
        requireInUse(number);
        contracts.callBackUntil[number] = now + CALL_BACK_LASTS;
        return contracts.callBackUntil[number];
    }

    public int endFirm(int firm, int heir)
            throws IndexOutOfBoundsException, IllegalArgumentException, IllegalStateException {
        requireFirm(firm);
        requireFirm(heir);
        if (firm == heir) {
            throw new IllegalArgumentException("a firm is not its own heir");
        }
        if (firms.gone[firm] || firms.gone[heir]) {
            throw new IllegalStateException("one of the firms is gone");
        }
        firms.gone[firm] = true;
        int inherited = 0;
        for (int block = 0; block < BLOCKS; block++) {
            inherited += inheritBlock(block, firm, heir);
        }
        history.firmEnds(firm, heir);
        orders.cancelBy(firm);
        return inherited;
    }

    // ---- orders, minutes

    public int order(int firm, int number, int secret, int minute)
            throws IndexOutOfBoundsException, IllegalArgumentException, IllegalStateException {
        requireFirm(firm);
        requireNumber(number);
        requireSecret(secret);
        if (minute <= now || minute > now + LONGEST_WAIT) {
            throw new IllegalArgumentException("the minute is out of range");
        }
        if (firms.gone[firm] || orders.count >= MAX_ORDERS) {
            throw new IllegalStateException("the firm is gone, or there are too many orders");
        }
        int reason = reasonToReject(firm, number, secret, minute);
        return orders.add(firm, number, contracts.server[number], minute, reason);
    }

    public int cancel(int order) throws IndexOutOfBoundsException, IllegalStateException {
        requireOrder(order);
        if (orders.state[order] != WAITING || orders.due[order] - now < CANCEL_AHEAD) {
            throw new IllegalStateException("the order is not waiting, or comes too soon");
        }
        orders.state[order] = CANCELLED;
        return orders.countWaiting();
    }

    public int reverse(int order) throws IndexOutOfBoundsException, IllegalStateException {
        requireOrder(order);
        if (!canReverse(order)) {
            throw new IllegalStateException("the order cannot be turned back");
        }
        int donor = orders.donor[order];
        orders.state[order] = REVERSED;
        moveTo(orders.number[order], donor);
        firms.pay(donor, orders.winner[order], PORTING_FEE);
        return donor;
    }

    public int pass(int minutes) throws IllegalArgumentException, IllegalStateException {
        if (minutes < 1 || minutes > LONGEST_PASS) {
            throw new IllegalArgumentException("minutes is out of range");
        }
        if (now + minutes > LAST_MINUTE) {
            throw new IllegalStateException("the minute would be too late");
        }
        int done = 0;
        for (int i = 0; i < minutes; i++) {
            now++;
            done += carryOutDueOrders();
            learnInTime();
        }
        return done;
    }

    public int setLag(int firm, int lag) throws IndexOutOfBoundsException, IllegalArgumentException {
        requireFirm(firm);
        if (lag < 0 || lag > LONGEST_LAG) {
            throw new IllegalArgumentException("lag is out of range");
        }
        int before = firms.lag[firm];
        firms.lag[firm] = lag;
        return before;
    }

    public boolean setDown(int firm, boolean isDown) throws IndexOutOfBoundsException {
        requireFirm(firm);
        boolean before = firms.down[firm];
        firms.down[firm] = isDown;
        return before;
    }

    public int correct(int firm) throws IndexOutOfBoundsException {
        requireFirm(firm);
        int unknown = centre.countUnknown(firm);
        centre.learnAll(firm);
        return unknown;
    }

    // ---- what there is

    public int server(int number) throws IndexOutOfBoundsException {
        requireNumber(number);
        return contracts.server[number];
    }

    public int serverAnew(int number) throws IndexOutOfBoundsException {
        requireNumber(number);
        return history.replay(number);
    }

    public int number(int number, int what) throws IndexOutOfBoundsException, IllegalArgumentException {
        requireNumber(number);
        requireWhat(what, NUMBER_FACTS);
        switch (what) {
            case 0:
                return holderOf(number);
            case 1:
                return asInt(contracts.isInQuarantine(number, now));
            case 2:
                return asInt(contracts.isSilent(number, now));
            case 3:
                return asInt(contracts.mayBeCalledBack(number, now));
            default:
                return orders.waitingFor(number);
        }
    }

    public int of(int order, int what) throws IndexOutOfBoundsException, IllegalArgumentException {
        requireOrder(order);
        requireWhat(what, ORDER_FACTS);
        switch (what) {
            case 0:
                return orders.state[order];
            case 1:
                return orders.reason[order];
            case 2:
                return orders.number[order];
            case 3:
                return orders.winner[order];
            case 4:
                return orders.donor[order];
            default:
                return orders.due[order];
        }
    }

    public int room(int minute) throws IllegalArgumentException {
        if (minute < 0 || minute > LAST_ROOM_MINUTE) {
            throw new IllegalArgumentException("the minute is out of range");
        }
        if (!isInWindow(minute) || minute <= now) {
            return 0;
        }
        return ORDERS_A_MINUTE - orders.countWaitingAt(minute);
    }

    public int firm(int firm, int what) throws IndexOutOfBoundsException, IllegalArgumentException {
        requireFirm(firm);
        requireWhat(what, FIRM_FACTS);
        switch (what) {
            case 0:
                return asInt(firms.gone[firm]);
            case 1:
                return countBlocksOf(firm);
            case 2:
                return contracts.countServedBy(firm);
            case 3:
                return asInt(firms.down[firm]);
            case 4:
                return firms.lag[firm];
            case 5:
                return firms.account[firm];
            default:
                return centre.countUnknown(firm);
        }
    }

    public int known(int firm, int number) throws IndexOutOfBoundsException {
        requireFirm(firm);
        requireNumber(number);
        return placeByTable(firm, number);
    }

    public int audit(int firm) throws IndexOutOfBoundsException {
        requireFirm(firm);
        int wrong = 0;
        for (int number = 0; number < NUMBERS; number++) {
            if (contracts.isInUse(number) && placeByTable(firm, number) != contracts.server[number]) {
                wrong++;
            }
        }
        return wrong;
    }

    // ---- calls

    public int hop(int firm, int number, int way, int place)
            throws IndexOutOfBoundsException, IllegalArgumentException {
        requireFirm(firm);
        requireNumber(number);
        if (place < 0) {
            throw new IndexOutOfBoundsException("no such place");
        }
        requireWay(way);
        traceCall(firm, number, way);
        return route.hopAt(place);
    }

    public int why(int firm, int number, int way) throws IndexOutOfBoundsException, IllegalArgumentException {
        requireFirm(firm);
        requireNumber(number);
        requireWay(way);
        return traceCall(firm, number, way);
    }

    public int dial(int from, int number, int way)
            throws IndexOutOfBoundsException, IllegalArgumentException, IllegalStateException {
        requireNumber(from);
        requireNumber(number);
        requireWay(way);
        requireInUse(from);
        int ending = traceCall(contracts.server[from], number, way);
        if (ending == ARRIVED) {
            payForCall();
        }
        return ending;
    }

    public int minute() {
        return now;
    }

    // ---- what arguments must be

    private static boolean isFirm(int firm) {
        return firm >= 0 && firm < FIRMS;
    }

    private static boolean isBlock(int block) {
        return block >= 0 && block < BLOCKS;
    }

    private static void requireFirm(int firm) {
        if (!isFirm(firm)) {
            throw new IndexOutOfBoundsException("no such firm");
        }
    }

    private static void requireNumber(int number) {
        if (number < 0 || number >= NUMBERS) {
            throw new IndexOutOfBoundsException("no such number");
        }
    }

    private void requireOrder(int order) {
        if (order < 0 || order >= orders.count) {
            throw new IndexOutOfBoundsException("no such order");
        }
    }

    private static void requireSecret(int secret) {
        if (secret < 0 || secret >= SECRETS) {
            throw new IllegalArgumentException("secret is out of range");
        }
    }

    private static void requireWhat(int what, int facts) {
        if (what < 0 || what >= facts) {
            throw new IllegalArgumentException("what is out of range");
        }
    }

    private static void requireWay(int way) {
        if (way < ALL_CALL || way > DROP_BACK) {
            throw new IllegalArgumentException("way is out of range");
        }
    }

    private void requireInUse(int number) {
        if (!contracts.isInUse(number)) {
            throw new IllegalStateException("the number is not in use");
        }
    }

    private static int asInt(boolean isSo) {
        return isSo ? 1 : 0;
    }

    // ---- blocks and their holders

    private int holderOf(int number) {
        return holders[number / BLOCK_SIZE];
    }

    private int countBlocksOf(int firm) {
        int count = 0;
        for (int block = 0; block < BLOCKS; block++) {
            if (holders[block] == firm) {
                count++;
            }
        }
        return count;
    }

    private boolean isBlockBusy(int block) {
        int first = block * BLOCK_SIZE;
        for (int number = first; number < first + BLOCK_SIZE; number++) {
            if (contracts.isInUse(number) || contracts.isInQuarantine(number, now)) {
                return true;
            }
        }
        return false;
    }

    /** Hands a block, if the firm holds it, and the firm's numbers in it to the heir; tells how many numbers. */
    private int inheritBlock(int block, int firm, int heir) {
        int holderBefore = holders[block];
        if (holderBefore == firm) {
            holders[block] = heir;
        }
        int inherited = 0;
        int first = block * BLOCK_SIZE;
        for (int number = first; number < first + BLOCK_SIZE; number++) {
            int serverBefore = contracts.server[number];
            if (serverBefore == firm) {
                contracts.server[number] = heir;
                contracts.lastOrder[number] = NONE;
                inherited++;
            }
            announceHeir(number, heir, serverBefore, holderBefore);
        }
        return inherited;
    }

    /** Adds the change, if there is one, that a firm's end brings for a number, behind that end. */
    private void announceHeir(int number, int heir, int serverBefore, int holderBefore) {
        if (contracts.server[number] != heir) {
            return;
        }
        if (holderOf(number) != heir) {
            if (serverBefore != heir) {
                centre.add(now, number, heir);
            }
        } else if (serverBefore != holderBefore) {
            // A table may still name a firm here, though block and number are one firm's again.
            centre.add(now, number, HOME);
        }
    }

    // ---- orders

    private static boolean isInWindow(int minute) {
        return minute % WINDOW_EVERY < WINDOW_LENGTH;
    }

    private int reasonToReject(int firm, int number, int secret, int minute) {
        if (!contracts.isInUse(number)) {
            return 1;
        }
        if (contracts.server[number] == firm) {
            return 2;
        }
        if (contracts.secret[number] != secret) {
            return 3;
        }
        if (orders.waitingFor(number) != NONE) {
            return 4;
        }
        if (contracts.isSilent(number, now)) {
            return 5;
        }
        if (!isInWindow(minute)) {
            return 6;
        }
        return orders.countWaitingAt(minute) >= ORDERS_A_MINUTE ? 7 : 0;
    }

    private boolean canReverse(int order) {
        if (orders.state[order] != DONE || now - orders.due[order] > REVERSE_WITHIN) {
            return false;
        }
        int number = orders.number[order];
        int donor = orders.donor[order];
        return contracts.isInUse(number)
                && isFirm(donor) && !firms.gone[donor]
                && contracts.lastOrder[number] == order;
    }

    private int carryOutDueOrders() {
        int done = 0;
        for (int order = 0; order < orders.count; order++) {
            if (orders.state[order] == WAITING && orders.due[order] == now) {
                carryOut(order);
                if (orders.state[order] == DONE) {
                    done++;
                }
            }
        }
        return done;
    }

    private void carryOut(int order) {
        int number = orders.number[order];
        int winner = orders.winner[order];
        if (contracts.mayBeCalledBack(number, now)) {
            orders.putOff(order);
        } else if (contracts.server[number] == winner) {
            orders.state[order] = CANCELLED;
        } else {
            int donor = contracts.server[number];
            orders.state[order] = DONE;
            orders.donor[order] = donor;
            moveTo(number, winner);
            contracts.lastOrder[number] = order;
            firms.pay(winner, donor, PORTING_FEE);
        }
    }

    /** Lets another firm serve a number in use. */
    private void moveTo(int number, int firm) {
        contracts.server[number] = firm;
        history.serves(number, firm);
        centre.add(now, number, firm == holderOf(number) ? HOME : firm);
    }

    // ---- tables

    private void learnInTime() {
        for (int firm = 0; firm < FIRMS; firm++) {
            if (!firms.down[firm]) {
                centre.learnUpTo(firm, now - firms.lag[firm]);
            }
        }
    }

    private int placeByTable(int firm, int number) {
        int holder = holderOf(number);
        int entry = centre.tables[firm][number];
        return holder == NONE || entry == HOME ? holder : entry;
    }

    // ---- calls

    /** Lays the hops of a call into the route and tells how it ends. */
    private int traceCall(int from, int number, int way) {
        route.begin(from);
        int holder = holderOf(number);
        if (holder == NONE) {
            return NO_BLOCK;
        }
        if (!contracts.isInUse(number)) {
            if (holder != from) {
                route.add(holder);
            }
            return NOT_IN_USE;
        }
        return followTables(number, way, holder);
    }

    private int followTables(int number, int way, int holder) {
        // All hops but the last one of a loop are different firms.
        for (int hops = 1; hops <= FIRMS; hops++) {
            int here = route.hopAt(hops - 1);
            if (here == contracts.server[number]) {
                return ARRIVED;
            }
            if (!isFirm(here) || firms.gone[here]) {
                return STUCK;
            }
            boolean dropsBack = way == DROP_BACK && hops == 2 && here == holder;
            int reader = dropsBack ? route.hopAt(0) : here;
            boolean goesHome = way != ALL_CALL && hops == 1 && here != holder;
            int next = goesHome ? holder : placeByTable(reader, number);
            if (next == here || next == reader) {
                return STUCK;
            }
            boolean wasThere = route.has(next);
            route.add(next);
            if (wasThere) {
                return LOOP;
            }
        }
        return LOOP;
    }

    private void payForCall() {
        int first = route.hopAt(0);
        int last = route.length - 1;
        if (last < 1) {
            return;
        }
        firms.pay(first, route.hopAt(last), ARRIVAL_FEE);
        for (int place = 1; place < last; place++) {
            firms.pay(first, route.hopAt(place), TRANSIT_FEE);
        }
    }

    /** What is told of each firm. */
    private static final class Firms {
        final boolean[] gone = new boolean[FIRMS];
        final boolean[] down = new boolean[FIRMS];
        final int[] lag = new int[FIRMS];
        final int[] account = new int[FIRMS];

        void pay(int payer, int payee, int amount) {
            if (isFirm(payer) && isFirm(payee)) {
                account[payer] -= amount;
                account[payee] += amount;
            }
        }
    }

    /** The contract of each number; minutes "until" are the last ones with them. */
    private static final class Contracts {
        final int[] server = new int[NUMBERS];
        final int[] secret = new int[NUMBERS];
        final int[] quarantineUntil = new int[NUMBERS];
        final int[] silentUntil = new int[NUMBERS];
        final int[] callBackUntil = new int[NUMBERS];
        /** The order by which the number came to its firm last; NONE if it was a contract or a firm's end. */
        final int[] lastOrder = new int[NUMBERS];

        Contracts() {
            Arrays.fill(server, NONE);
            Arrays.fill(quarantineUntil, NONE);
            Arrays.fill(silentUntil, NONE);
            Arrays.fill(callBackUntil, NONE);
            Arrays.fill(lastOrder, NONE);
        }

        boolean isInUse(int number) {
            return server[number] != NONE;
        }

        boolean isInQuarantine(int number, int minute) {
            return minute <= quarantineUntil[number];
        }

        boolean isSilent(int number, int minute) {
            return minute <= silentUntil[number];
        }

        boolean mayBeCalledBack(int number, int minute) {
            return minute <= callBackUntil[number];
        }

        void begin(int number, int firm, int newSecret) {
            server[number] = firm;
            secret[number] = newSecret;
        }

        void finish(int number, int minute) {
            server[number] = NONE;
            quarantineUntil[number] = minute + QUARANTINE_LASTS;
            silentUntil[number] = NONE;
            callBackUntil[number] = NONE;
            lastOrder[number] = NONE;
        }

        int countServedBy(int firm) {
            int count = 0;
            for (int number = 0; number < NUMBERS; number++) {
                if (server[number] == firm) {
                    count++;
                }
            }
            return count;
        }
    }

    /** All orders that were told, by their numbers. */
    private static final class Orders {
        final int[] state = new int[MAX_ORDERS];
        final int[] reason = new int[MAX_ORDERS];
        final int[] number = new int[MAX_ORDERS];
        final int[] winner = new int[MAX_ORDERS];
        final int[] donor = new int[MAX_ORDERS];
        final int[] due = new int[MAX_ORDERS];
        int count = 0;

        int add(int firm, int ordered, int served, int minute, int rejection) {
            if (count >= MAX_ORDERS) {
                return NONE;
            }
            int order = count;
            state[order] = rejection == 0 ? WAITING : REJECTED;
            reason[order] = rejection;
            number[order] = ordered;
            winner[order] = firm;
            donor[order] = served;
            due[order] = minute;
            count++;
            return order;
        }

        int waitingFor(int wanted) {
            for (int order = 0; order < count; order++) {
                if (state[order] == WAITING && number[order] == wanted) {
                    return order;
                }
            }
            return NONE;
        }

        int countWaiting() {
            int waiting = 0;
            for (int order = 0; order < count; order++) {
                if (state[order] == WAITING) {
                    waiting++;
                }
            }
            return waiting;
        }

        int countWaitingAt(int minute) {
            int waiting = 0;
            for (int order = 0; order < count; order++) {
                if (state[order] == WAITING && due[order] == minute) {
                    waiting++;
                }
            }
            return waiting;
        }

        void cancelFor(int ended) {
            int order = waitingFor(ended);
            if (order != NONE) {
                state[order] = CANCELLED;
            }
        }

        void cancelBy(int firm) {
            for (int order = 0; order < count; order++) {
                if (state[order] == WAITING && winner[order] == firm) {
                    state[order] = CANCELLED;
                }
            }
        }

        void putOff(int order) {
            int minute = due[order] + WINDOW_EVERY;
            // Fewer minutes can be full than there are orders.
            for (int i = 0; i < MAX_ORDERS && countWaitingAt(minute) >= ORDERS_A_MINUTE; i++) {
                minute += WINDOW_EVERY;
            }
            due[order] = minute;
        }
    }

    /** The centre's row of changes, and the firms' tables, that follow it. */
    private static final class Centre {
        /**
         * More than any run can need: at most 60 orders are done and 60 turned back; only numbers
         * with such an order can be away from their holder, so that each of at most 5 ends of firms
         * changes at most 60; and each of the 60 lets at most one contract's end bring a change.
         */
        static final int MAX_CHANGES = 10 * MAX_ORDERS;

        final int[] minutes = new int[MAX_CHANGES];
        final int[] numbers = new int[MAX_CHANGES];
        final int[] places = new int[MAX_CHANGES];
        int count = 0;
        final int[] learned = new int[FIRMS];
        final int[][] tables = new int[FIRMS][NUMBERS];

        Centre() {
            for (int firm = 0; firm < FIRMS; firm++) {
                Arrays.fill(tables[firm], HOME);
            }
        }

        void add(int minute, int number, int place) {
            if (count < MAX_CHANGES) {
                minutes[count] = minute;
                numbers[count] = number;
                places[count] = place;
                count++;
            }
        }

        int countUnknown(int firm) {
            return count - learned[firm];
        }

        void learnAll(int firm) {
            for (int change = learned[firm]; change < count; change++) {
                tables[firm][numbers[change]] = places[change];
            }
            learned[firm] = count;
        }

        void learnUpTo(int firm, int minute) {
            int change = learned[firm];
            while (change < count && minutes[change] <= minute) {
                tables[firm][numbers[change]] = places[change];
                change++;
            }
            learned[firm] = change;
        }
    }

    /** All that changed who serves numbers, so that this can be told anew. */
    private static final class History {
        /** Each of an object's 512 calls leads to one event at most, and so does each order that is done. */
        static final int MAX_EVENTS = 512 + MAX_ORDERS;

        final boolean[] isFirmsEnd = new boolean[MAX_EVENTS];
        /** The number; of a firm's end that firm. */
        final int[] subject = new int[MAX_EVENTS];
        /** The firm that serves it then, or NONE; of a firm's end the heir. */
        final int[] successor = new int[MAX_EVENTS];
        int count = 0;

        void serves(int number, int firm) {
            note(false, number, firm);
        }

        void firmEnds(int firm, int heir) {
            note(true, firm, heir);
        }

        private void note(boolean firmsEnd, int about, int next) {
            if (count < MAX_EVENTS) {
                isFirmsEnd[count] = firmsEnd;
                subject[count] = about;
                successor[count] = next;
                count++;
            }
        }

        int replay(int number) {
            int serving = NONE;
            for (int event = 0; event < count; event++) {
                int affected = isFirmsEnd[event] ? serving : number;
                if (subject[event] == affected) {
                    serving = successor[event];
                }
            }
            return serving;
        }
    }

    /** The hops of the call that was traced last. */
    private static final class Route {
        final int[] hops = new int[FIRMS + 1];
        int length = 0;

        void begin(int firm) {
            hops[0] = firm;
            length = 1;
        }

        void add(int firm) {
            if (length < hops.length) {
                hops[length] = firm;
                length++;
            }
        }

        int hopAt(int place) {
            return place >= 0 && place < length ? hops[place] : NONE;
        }

        boolean has(int firm) {
            for (int place = 0; place < length; place++) {
                if (hops[place] == firm) {
                    return true;
                }
            }
            return false;
        }
    }
}
