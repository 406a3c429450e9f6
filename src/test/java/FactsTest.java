/** Promises 16 to 23: what there is. */
public final class FactsTest {
    private static final int LOW = Integer.MIN_VALUE;
    private static final int HIGH = Integer.MAX_VALUE;

    public static void main(String[] args) {
        promise16Server();
        promise17ServerAnew();
        promise18Number();
        promise19Of();
        promise20Room();
        promise21Firm();
        promise22Known();
        promise23Audit();
        Check.finish("FactsTest");
    }

    private static Portinghall land() {
        Portinghall x = new Portinghall();
        x.give(0, 0);
        x.give(1, 1);
        for (int number = 0; number < 12; number++) {
            x.assign(number, 5);
        }
        return x;
    }

    private static void promise16Server() {
        Portinghall x = land();
        Check.is("served", x.server(11), 1);
        Check.is("not in use", x.server(12), Portinghall.NONE);
        Check.is("of no block", x.server(199), Portinghall.NONE);
        for (int bad : new int[] {-1, 200, LOW, HIGH}) {
            Check.noIndex("server of " + bad, () -> x.server(bad));
        }
    }

    private static void serves(String what, Portinghall x, int number, int firm) {
        Check.is(what + ": server", x.server(number), firm);
        Check.is(what + ": server anew", x.serverAnew(number), firm);
    }

    private static void promise17ServerAnew() {
        Portinghall x = land();
        for (int bad : new int[] {-1, 200, LOW, HIGH}) {
            Check.noIndex("server anew of " + bad, () -> x.serverAnew(bad));
        }
        serves("never in use", x, 12, Portinghall.NONE);
        serves("the first contract", x, 0, 0);
        serves("the last contract", x, 11, 1);
        x.order(2, 11, 5, 10);
        x.order(2, 1, 5, 10);
        x.pass(10);
        serves("an order", x, 11, 2);
        x.reverse(0);
        serves("an order turned back", x, 11, 1);
        x.endFirm(1, 3);
        serves("an end of a firm", x, 11, 3);
        serves("an end of another firm", x, 1, 2);
        x.endFirm(0, 3);
        serves("served by an heir that holds it", x, 5, 3);
        x.endFirm(3, 2);
        serves("an heir's heir", x, 5, 2);
        x.end(5);
        serves("an end of a contract", x, 5, Portinghall.NONE);
        x.endFirm(2, 4);
        serves("an end of a firm behind that", x, 5, Portinghall.NONE);
        x.pass(100);
        x.assign(5, 1);
        serves("a contract anew", x, 5, 4);
        serves("the heir of one that had an order", x, 1, 4);
    }

    private static void promise18Number() {
        Portinghall x = land();
        x.order(2, 0, 5, 100);
        x.order(2, 1, 4, 100);
        x.order(3, 2, 5, 100);
        Check.is("holder", x.number(10, 0), 1);
        Check.is("no holder", x.number(20, 0), Portinghall.NONE);
        Check.is("its order", x.number(0, 4), 0);
        Check.is("a rejected one does not wait", x.number(1, 4), Portinghall.NONE);
        Check.is("another order", x.number(2, 4), 2);
        x.pass(100);
        Check.is("one that is done does not wait", x.number(0, 4), Portinghall.NONE);
        Check.is("the holder is another one than the server", x.number(0, 0), 0);
        x.end(3);
        Check.is("quarantine", x.number(3, 1), 1);
        Check.is("another one's quarantine", x.number(4, 1), 0);
        x.swap(4, 7);
        Check.is("silence", x.number(4, 2), 1);
        Check.is("another one's silence", x.number(5, 2), 0);
        x.emergency(5);
        Check.is("call back", x.number(5, 3), 1);
        Check.is("another one's call back", x.number(4, 3), 0);
        for (int bad : new int[] {-1, 200, LOW, HIGH}) {
            Check.noIndex("number " + bad, () -> x.number(bad, 0));
            Check.noIndex("number and what " + bad, () -> x.number(bad, 5));
        }
        for (int bad : new int[] {-1, 5, LOW, HIGH}) {
            Check.noArgument("what " + bad, () -> x.number(0, bad));
        }
    }

    private static void promise19Of() {
        Portinghall x = land();
        x.order(2, 11, 5, 110);
        x.order(2, 11, 4, 115);
        int[][] due = {{Portinghall.WAITING, 0, 11, 2, 1, 110}, {Portinghall.REJECTED, 3, 11, 2, 1, 115}};
        for (int order = 0; order < 2; order++) {
            for (int what = 0; what < 6; what++) {
                Check.is("of(" + order + ", " + what + ")", x.of(order, what), due[order][what]);
            }
        }
        for (int bad : new int[] {-1, 2, 59, 60, LOW, HIGH}) {
            Check.noIndex("order " + bad, () -> x.of(bad, 0));
            Check.noIndex("order " + bad + " and what", () -> x.of(bad, 6));
        }
        for (int bad : new int[] {-1, 6, LOW, HIGH}) {
            Check.noArgument("what " + bad, () -> x.of(0, bad));
        }
        x.cancel(0);
        Check.is("cancelled", x.of(0, 0), Portinghall.CANCELLED);
        Check.is("the minute for which it waited", x.of(0, 5), 110);
        Check.is("the donor as it was told", x.of(0, 4), 1);
    }

    private static void promise20Room() {
        Portinghall x = land();
        Check.is("the first minute", x.room(0), 0);
        Check.is("the second minute", x.room(1), 3);
        x.pass(5);
        Check.is("now", x.room(5), 0);
        Check.is("ahead of now", x.room(4), 0);
        Check.is("the next one", x.room(6), 3);
        Check.is("the window's last one", x.room(19), 3);
        Check.is("behind the window", x.room(20), 0);
        Check.is("ahead of the next window", x.room(99), 0);
        Check.is("the next window", x.room(100), 3);
        Check.is("farther than an order", x.room(10919), 3);
        Check.is("the last minute is in no window", x.room(10999), 0);
        x.order(1, 0, 5, 100);
        Check.is("two more", x.room(100), 2);
        x.order(1, 1, 5, 100);
        x.order(1, 1, 5, 100);
        Check.is("one more", x.room(100), 1);
        x.order(1, 2, 5, 100);
        Check.is("none", x.room(100), 0);
        x.cancel(1);
        Check.is("one again", x.room(100), 1);
        for (int bad : new int[] {-1, 11000, LOW, HIGH}) {
            Check.noArgument("room at " + bad, () -> x.room(bad));
        }
    }

    private static void promise21Firm() {
        Portinghall x = land();
        x.setLag(2, 9);
        x.setDown(2, true);
        x.order(2, 0, 5, 10);
        x.order(2, 10, 5, 11);
        x.pass(11);
        int[] winner = {0, 0, 2, 1, 9, -10, 2};
        int[] donor = {0, 1, 9, 0, 0, 5, 0};
        for (int what = 0; what < 7; what++) {
            Check.is("firm(2, " + what + ")", x.firm(2, what), winner[what]);
            Check.is("firm(0, " + what + ")", x.firm(0, what), donor[what]);
        }
        x.endFirm(2, 0);
        int[] gone = {1, 0, 0, 1, 9, -10, 4};
        int[] heir = {0, 1, 11, 0, 0, 5, 2};
        for (int what = 0; what < 7; what++) {
            Check.is("firm(2, " + what + ") when it is gone", x.firm(2, what), gone[what]);
            Check.is("firm(0, " + what + ") as the heir", x.firm(0, what), heir[what]);
        }
        for (int bad : new int[] {-1, 6, LOW, HIGH}) {
            Check.noIndex("firm " + bad, () -> x.firm(bad, 0));
            Check.noIndex("firm " + bad + " and what", () -> x.firm(bad, 7));
        }
        for (int bad : new int[] {-1, 7, LOW, HIGH}) {
            Check.noArgument("what " + bad, () -> x.firm(0, bad));
        }
    }

    private static void promise22Known() {
        Portinghall x = land();
        x.setDown(4, true);
        Check.is("of no block", x.known(3, 20), Portinghall.NONE);
        Check.is("not in use", x.known(3, 19), 1);
        Check.is("with the holder", x.known(3, 11), 1);
        x.order(2, 11, 5, 10);
        x.pass(10);
        Check.is("with the winner", x.known(3, 11), 2);
        Check.is("another number", x.known(3, 10), 1);
        Check.is("by another table", x.known(4, 11), 1);
        x.setDown(3, true);
        x.end(11);
        x.pass(100);
        Check.is("not in use, by an old table", x.known(3, 11), 2);
        x.end(10);
        x.pass(100);
        x.giveBack(1);
        Check.is("its block is not given any more", x.known(3, 11), Portinghall.NONE);
        x.give(1, 5);
        Check.is("an old table with a new block", x.known(3, 11), 2);
        Check.is("a holder is known at once", x.known(3, 12), 5);
        Check.is("HOME is the new holder", x.known(0, 11), 5);
        for (int bad : new int[] {-1, 6, LOW, HIGH}) {
            Check.noIndex("firm " + bad, () -> x.known(bad, 0));
        }
        for (int bad : new int[] {-1, 200, LOW, HIGH}) {
            Check.noIndex("number " + bad, () -> x.known(0, bad));
        }
    }

    private static void promise23Audit() {
        Portinghall x = land();
        x.setDown(4, true);
        Check.is("nothing is wrong", x.audit(4), 0);
        x.order(2, 0, 5, 10);
        x.order(2, 1, 5, 10);
        x.order(2, 11, 5, 10);
        x.pass(10);
        Check.is("by a table that is right", x.audit(0), 0);
        Check.is("by a table that knows nothing", x.audit(4), 3);
        x.end(0);
        Check.is("numbers that are not in use do not count", x.audit(4), 2);
        Check.is("by a table that does not know the end", x.audit(0), 0);
        x.reverse(1);
        Check.is("right again though it knows nothing", x.audit(4), 1);
        Check.is("wrong though it knew all", x.audit(0), 1);
        x.pass(1);
        Check.is("right by what it learnt", x.audit(0), 0);
        for (int bad : new int[] {-1, 6, LOW, HIGH}) {
            Check.noIndex("audit of firm " + bad, () -> x.audit(bad));
        }
    }
}
