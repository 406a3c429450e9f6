/** Promises 1 to 8: a new object, blocks, contracts and ends of firms. */
public final class BlocksTest {
    private static final int LOW = Integer.MIN_VALUE;
    private static final int HIGH = Integer.MAX_VALUE;

    public static void main(String[] args) {
        promise1NewObject();
        promise2Give();
        promise3GiveBack();
        promise4Assign();
        promise5End();
        promise5EndBringsHomeToTables();
        promise6Swap();
        promise6Silence();
        promise7Emergency();
        promise8EndFirm();
        promise8Changes();
        promise8Orders();
        Check.finish("BlocksTest");
    }

    private static void promise1NewObject() {
        Portinghall x = new Portinghall();
        Check.is("minute at first", x.minute(), 0);
        for (int firm = 0; firm < 6; firm++) {
            for (int what = 0; what < 7; what++) {
                Check.is("firm(" + firm + ", " + what + ") at first", x.firm(firm, what), 0);
            }
        }
        Check.noIndex("no order at first", () -> x.of(0, 0));
        for (int first = 0; first < 200; first += 50) {
            promise1Numbers(new Portinghall(), first);
        }
    }

    private static void promise1Numbers(Portinghall x, int first) {
        for (int number = first; number < first + 50; number++) {
            Check.is("holder at first", x.number(number, 0), Portinghall.NONE);
            Check.is("server at first", x.server(number), Portinghall.NONE);
            Check.is("server anew at first", x.serverAnew(number), Portinghall.NONE);
            Check.is("quarantine at first", x.number(number, 1), 0);
            Check.is("silence at first", x.number(number, 2), 0);
            Check.is("call back at first", x.number(number, 3), 0);
            Check.is("waiting at first", x.number(number, 4), Portinghall.NONE);
        }
    }

    private static void promise2Give() {
        Portinghall x = new Portinghall();
        Check.is("first block", x.give(0, 5), 1);
        Check.is("second block", x.give(19, 5), 2);
        Check.is("another's block", x.give(7, 0), 1);
        Check.is("holder of 199", x.number(199, 0), 5);
        Check.is("holder of 190", x.number(190, 0), 5);
        Check.is("holder of 189", x.number(189, 0), Portinghall.NONE);
        for (int bad : new int[] {-1, 20, LOW, HIGH}) {
            Check.noIndex("give block " + bad, () -> x.give(bad, 1));
        }
        for (int bad : new int[] {-1, 6, LOW, HIGH}) {
            Check.noIndex("give to firm " + bad, () -> x.give(3, bad));
            Check.noIndex("give a given block to firm " + bad, () -> x.give(0, bad));
        }
        Check.noState("give twice", () -> x.give(0, 5));
        Check.noState("give another's", () -> x.give(0, 1));
        x.endFirm(1, 2);
        Check.noState("give to a firm that is gone", () -> x.give(4, 1));
        Check.noIndex("no block, to a firm that is gone", () -> x.give(20, 1));
        Check.is("nothing of that changed the holder", x.number(40, 0), Portinghall.NONE);
    }

    private static void promise3GiveBack() {
        Portinghall x = new Portinghall();
        x.give(3, 4);
        Check.noState("a block that was never given", () -> x.giveBack(2));
        for (int bad : new int[] {-1, 20, LOW, HIGH}) {
            Check.noIndex("give back block " + bad, () -> x.giveBack(bad));
        }
        x.assign(39, 1);
        Check.noState("one of its numbers is in use", () -> x.giveBack(3));
        x.end(39);
        x.pass(99);
        Check.noState("the last minute of quarantine", () -> x.giveBack(3));
        x.pass(1);
        Check.is("behind quarantine", x.giveBack(3), 4);
        Check.noState("it was given back", () -> x.giveBack(3));
        Check.is("its holder", x.number(30, 0), Portinghall.NONE);
        Check.is("its firm's blocks", x.firm(4, 1), 0);
        Check.is("given anew", x.give(3, 2), 1);
        Check.is("given back unused", x.giveBack(3), 2);
        x.give(4, 1);
        x.give(5, 1);
        x.assign(49, 1);
        x.assign(50, 1);
        Check.noState("its first number is in use", () -> x.giveBack(5));
        x.end(50);
        x.pass(100);
        Check.is("only the block beside it is busy", x.giveBack(5), 1);
    }

    private static void promise4Assign() {
        Portinghall x = new Portinghall();
        x.give(0, 3);
        x.give(19, 2);
        Check.is("assign", x.assign(0, 0), 3);
        Check.is("assign the last one", x.assign(199, 99), 2);
        Check.is("served by", x.server(199), 2);
        for (int bad : new int[] {-1, 200, LOW, HIGH}) {
            Check.noIndex("assign number " + bad, () -> x.assign(bad, 5));
            Check.noIndex("assign number and secret " + bad, () -> x.assign(bad, -1));
        }
        for (int bad : new int[] {-1, 100, LOW, HIGH}) {
            Check.noArgument("assign with secret " + bad, () -> x.assign(1, bad));
            Check.noArgument("assign one in use with secret " + bad, () -> x.assign(0, bad));
        }
        Check.noState("assign one in use", () -> x.assign(0, 0));
        Check.noState("assign one of no block", () -> x.assign(10, 0));
        x.end(0);
        Check.noState("assign one in quarantine", () -> x.assign(0, 0));
        x.pass(99);
        Check.noState("assign in the last minute of quarantine", () -> x.assign(0, 0));
        x.pass(1);
        Check.is("assign behind quarantine", x.assign(0, 7), 3);
        Check.is("the new secret", x.swap(0, 8), 7);
        Check.is("a contract is no change", x.firm(0, 6), 0);
    }

    private static void promise5End() {
        Portinghall x = new Portinghall();
        x.give(1, 0);
        x.assign(10, 5);
        x.order(1, 10, 5, 10);
        x.emergency(10);
        x.swap(10, 5);
        Check.is("end", x.end(10), 0);
        Check.is("its order", x.of(0, 0), Portinghall.CANCELLED);
        Check.is("none waits for it", x.number(10, 4), Portinghall.NONE);
        Check.is("not in use", x.server(10), Portinghall.NONE);
        Check.is("in quarantine", x.number(10, 1), 1);
        Check.is("the call back ends with it", x.number(10, 3), 0);
        Check.is("the silence ends with it", x.number(10, 2), 0);
        Check.noState("end twice", () -> x.end(10));
        Check.noState("end what never began", () -> x.end(11));
        for (int bad : new int[] {-1, 200, LOW, HIGH}) {
            Check.noIndex("end number " + bad, () -> x.end(bad));
        }
        Check.is("no order comes", x.pass(99), 0);
        Check.is("still in quarantine", x.number(10, 1), 1);
        x.pass(1);
        Check.is("out of quarantine", x.number(10, 1), 0);
        x.assign(10, 6);
        x.swap(10, 7);
        Check.is("silent", x.number(10, 2), 1);
        x.end(10);
        Check.is("the silence ends with it, later too", x.number(10, 2), 0);
    }

    private static void promise5EndBringsHomeToTables() {
        Portinghall x = new Portinghall();
        x.give(0, 0);
        x.assign(3, 5);
        x.assign(4, 5);
        x.order(1, 3, 5, 10);
        x.pass(10);
        Check.is("all know of it", x.firm(5, 6), 0);
        Check.is("end with a firm that is not the holder", x.end(3), 1);
        Check.is("that is a change", x.firm(5, 6), 1);
        Check.is("known as ahead of it", x.known(5, 3), 1);
        x.end(4);
        Check.is("an end with the holder is none", x.firm(5, 6), 1);
        x.pass(1);
        Check.is("known to be home", x.known(5, 3), 0);
    }

    private static void promise6Swap() {
        Portinghall x = new Portinghall();
        x.give(2, 1);
        x.assign(20, 11);
        Check.is("swap", x.swap(20, 12), 11);
        Check.is("swap again", x.swap(20, 0), 12);
        Check.is("swap for the same", x.swap(20, 0), 0);
        Check.is("swap for 99", x.swap(20, 99), 0);
        Check.is("and back", x.swap(20, 1), 99);
        for (int bad : new int[] {-1, 200, LOW, HIGH}) {
            Check.noIndex("swap number " + bad, () -> x.swap(bad, 5));
            Check.noIndex("swap number and secret " + bad, () -> x.swap(bad, 100));
        }
        for (int bad : new int[] {-1, 100, LOW, HIGH}) {
            Check.noArgument("swap for secret " + bad, () -> x.swap(20, bad));
            Check.noArgument("swap unused for secret " + bad, () -> x.swap(21, bad));
        }
        Check.noState("swap unused", () -> x.swap(21, 5));
        Check.is("nothing of that changed the secret", x.swap(20, 2), 1);
    }

    private static void promise6Silence() {
        Portinghall x = new Portinghall();
        x.give(2, 1);
        x.assign(20, 11);
        Check.is("not silent by its contract", x.number(20, 2), 0);
        x.pass(3);
        x.swap(20, 12);
        Check.is("silent at once", x.number(20, 2), 1);
        x.pass(49);
        Check.is("silent to the last", x.number(20, 2), 1);
        x.order(0, 20, 12, 100);
        Check.is("rejected as silent", x.of(0, 1), 5);
        x.pass(1);
        Check.is("silent no more", x.number(20, 2), 0);
        x.order(0, 20, 12, 100);
        Check.is("waits", x.of(1, 0), Portinghall.WAITING);
        x.swap(20, 13);
        Check.is("a card that is swapped later does not stop it", x.pass(47), 1);
    }

    private static void promise7Emergency() {
        Portinghall x = new Portinghall();
        x.give(2, 1);
        x.assign(20, 11);
        x.pass(7);
        Check.is("emergency", x.emergency(20), 37);
        x.pass(1);
        Check.is("emergency again", x.emergency(20), 38);
        Check.is("called back at once", x.number(20, 3), 1);
        x.pass(30);
        Check.is("called back to the last", x.number(20, 3), 1);
        x.pass(1);
        Check.is("called back no more", x.number(20, 3), 0);
        for (int bad : new int[] {-1, 200, LOW, HIGH}) {
            Check.noIndex("emergency from number " + bad, () -> x.emergency(bad));
        }
        Check.noState("emergency unused", () -> x.emergency(21));
        Check.noState("emergency of no block", () -> x.emergency(0));
    }

    private static void promise8EndFirm() {
        Portinghall x = new Portinghall();
        x.give(0, 0);
        x.give(1, 0);
        x.give(2, 3);
        x.assign(5, 1);
        x.assign(15, 1);
        x.assign(25, 1);
        for (int bad : new int[] {-1, 6, LOW, HIGH}) {
            Check.noIndex("end of firm " + bad, () -> x.endFirm(bad, 1));
            Check.noIndex("heir " + bad, () -> x.endFirm(1, bad));
            Check.noIndex("both " + bad, () -> x.endFirm(bad, bad));
        }
        Check.noArgument("its own heir", () -> x.endFirm(2, 2));
        Check.is("end of a firm", x.endFirm(0, 4), 2);
        Check.is("it is gone", x.firm(0, 0), 1);
        Check.is("its blocks", x.firm(0, 1), 0);
        Check.is("its numbers", x.firm(0, 2), 0);
        Check.is("the heir's blocks", x.firm(4, 1), 2);
        Check.is("the heir's numbers", x.firm(4, 2), 2);
        Check.is("another's numbers", x.firm(3, 2), 1);
        Check.is("the heir serves", x.server(15), 4);
        Check.is("the heir holds", x.number(0, 0), 4);
        Check.is("accounts are left", x.firm(4, 5), 0);
        Check.noState("end of one that is gone", () -> x.endFirm(0, 1));
        Check.noState("an heir that is gone", () -> x.endFirm(1, 0));
        Check.noArgument("gone, and its own heir", () -> x.endFirm(0, 0));
        Check.is("end of a firm with nothing", x.endFirm(5, 1), 0);
        Check.is("numbers stay with their holder without a change", x.firm(1, 6), 0);
    }

    private static void promise8Changes() {
        Portinghall x = new Portinghall();
        x.give(0, 0);
        x.give(1, 1);
        for (int number : new int[] {0, 1, 2, 10, 11}) {
            x.assign(number, 5);
        }
        x.order(1, 0, 5, 10);
        x.order(2, 1, 5, 10);
        x.order(2, 10, 5, 10);
        x.order(0, 11, 5, 11);
        x.pass(11);
        for (int firm = 0; firm < 6; firm++) {
            x.setLag(firm, 50);
        }
        // 0: of 0's block, with 1; 1: of 0's, with 2; 2: at home; 10: of 1's, with 2; 11: of 1's, with 0.
        Check.is("numbers that 1 serves", x.endFirm(0, 1), 2);
        Check.is("HOME for 0, which the heir served, and for 11, which comes home", x.firm(3, 6), 2);
        Check.is("known to be with 1 all the same", x.known(3, 0), 1);
        Check.is("known to be with 0 yet", x.known(3, 11), 0);
        Check.is("a holder is known at once", x.known(3, 2), 1);
        Check.is("2 comes to serve no other way", x.endFirm(2, 3), 2);
        Check.is("the heir is named for 1 and 10", x.firm(3, 6), 4);
        Check.is("known to be with 2 yet", x.known(4, 10), 2);
        x.correct(4);
        Check.is("known to be with the heir", x.known(4, 10), 3);
        Check.is("known to be with the heir too", x.known(4, 1), 3);
        x.endFirm(1, 4);
        Check.is("at home ahead of it: no change", x.firm(4, 6), 0);
        Check.is("HOME leads to the new holder", x.known(4, 0), 4);
        Check.is("the table is right", x.audit(4), 0);
        x.endFirm(5, 3);
        Check.is("numbers that an heir served elsewhere bring none", x.firm(4, 6), 0);
    }

    private static void promise8Orders() {
        Portinghall x = new Portinghall();
        x.give(0, 0);
        x.assign(0, 5);
        x.assign(1, 5);
        x.assign(2, 5);
        x.order(1, 0, 5, 10);
        x.order(2, 1, 5, 10);
        x.order(1, 2, 5, 5);
        x.pass(5);
        x.endFirm(1, 3);
        Check.is("an order by which it would win", x.of(0, 0), Portinghall.CANCELLED);
        Check.is("another's order", x.of(1, 0), Portinghall.WAITING);
        Check.is("an order that was done", x.of(2, 0), Portinghall.DONE);
        Check.noState("one that is gone cannot win", () -> x.order(1, 0, 5, 10));
        x.endFirm(0, 2);
        Check.is("its donor is as told", x.of(1, 4), 0);
        Check.is("the winner serves it by then", x.pass(5), 0);
        Check.is("so it is cancelled", x.of(1, 0), Portinghall.CANCELLED);
        Check.is("nobody paid", x.firm(2, 5), 0);
    }
}
