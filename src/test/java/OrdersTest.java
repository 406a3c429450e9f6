/** Promises 9 to 15: orders, minutes and what firms learn. */
public final class OrdersTest {
    private static final int LOW = Integer.MIN_VALUE;
    private static final int HIGH = Integer.MAX_VALUE;

    public static void main(String[] args) {
        promise9Order();
        promise9Reasons();
        promise9Faults();
        promise9SixtyOrders();
        promise10Cancel();
        promise11Reverse();
        promise11WithinSixty();
        promise11NobodySince();
        promise11Ends();
        promise12Pass();
        promise12PutOff();
        promise12LastMinute();
        promise12Learning();
        promise13SetLag();
        promise14SetDown();
        promise15Correct();
        Check.finish("OrdersTest");
    }

    /** Block 0 is 0's, with its numbers 0 to 9 in use, secret 5. */
    private static Portinghall land() {
        Portinghall x = new Portinghall();
        x.give(0, 0);
        for (int number = 0; number < 10; number++) {
            x.assign(number, 5);
        }
        return x;
    }

    private static void promise9Order() {
        Portinghall x = land();
        Check.is("first order", x.order(3, 7, 5, 19), 0);
        Check.is("state", x.of(0, 0), Portinghall.WAITING);
        Check.is("reason", x.of(0, 1), 0);
        Check.is("number", x.of(0, 2), 7);
        Check.is("winner", x.of(0, 3), 3);
        Check.is("donor", x.of(0, 4), 0);
        Check.is("minute", x.of(0, 5), 19);
        Check.is("waits for 7", x.number(7, 4), 0);
        Check.is("second order", x.order(3, 150, 5, 19), 1);
        Check.is("a donor where there is none", x.of(1, 4), Portinghall.NONE);
        Check.is("the soonest", x.order(1, 1, 5, 1), 2);
        Check.is("it waits", x.of(2, 0), Portinghall.WAITING);
        Check.is("the latest", x.order(1, 2, 5, 500), 3);
        Check.is("it waits too", x.of(3, 0), Portinghall.WAITING);
    }

    private static void promise9Reasons() {
        Portinghall x = land();
        x.order(1, 0, 5, 10);
        x.swap(0, 6);
        rejected(x, 1, "1 ahead of all", x.order(0, 10, 9, 20));
        rejected(x, 2, "2 ahead of 3 to 6", x.order(0, 0, 9, 20));
        rejected(x, 3, "3 ahead of 4 to 6", x.order(2, 0, 5, 20));
        rejected(x, 4, "4 ahead of 5 and 6", x.order(2, 0, 6, 20));
        x.swap(1, 6);
        rejected(x, 5, "5 ahead of 6", x.order(2, 1, 6, 99));
        rejected(x, 6, "6", x.order(2, 2, 5, 99));
        rejected(x, 6, "6 at the window's end", x.order(2, 2, 5, 120));
        x.order(2, 2, 5, 10);
        x.order(3, 3, 5, 10);
        rejected(x, 7, "7", x.order(2, 4, 5, 10));
        rejected(x, 5, "5 ahead of 7", x.order(2, 1, 6, 10));
        Check.is("one that is rejected keeps its minute", x.of(7, 5), 120);
        Check.is("a minute that is not full", x.of(x.order(2, 4, 5, 11), 0), Portinghall.WAITING);
        Check.is("at the window's begin", x.of(x.order(2, 5, 5, 100), 0), Portinghall.WAITING);
        Check.is("at its last minute", x.of(x.order(2, 6, 5, 119), 0), Portinghall.WAITING);
    }

    private static void rejected(Portinghall x, int reason, String what, int order) {
        Check.is(what + ": state", x.of(order, 0), Portinghall.REJECTED);
        Check.is(what + ": reason", x.of(order, 1), reason);
    }

    private static void promise9Faults() {
        Portinghall x = land();
        x.pass(3);
        for (int bad : new int[] {-1, 6, LOW, HIGH}) {
            Check.noIndex("firm " + bad, () -> x.order(bad, 0, -1, 3));
        }
        for (int bad : new int[] {-1, 200, LOW, HIGH}) {
            Check.noIndex("number " + bad, () -> x.order(1, bad, -1, 3));
        }
        for (int bad : new int[] {-1, 100, LOW, HIGH}) {
            Check.noArgument("secret " + bad, () -> x.order(1, 0, bad, 10));
        }
        for (int bad : new int[] {3, 2, 0, -1, 504, LOW, HIGH}) {
            Check.noArgument("minute " + bad, () -> x.order(1, 0, 5, bad));
        }
        x.endFirm(5, 4);
        Check.noState("a firm that is gone", () -> x.order(5, 0, 5, 10));
        Check.noArgument("gone, with a bad secret", () -> x.order(5, 0, 100, 10));
        Check.noArgument("gone, with a bad minute", () -> x.order(5, 0, 5, 3));
        Check.is("none of these is an order", x.order(1, 0, 5, 503), 0);
        Check.is("the next minute", x.order(1, 1, 5, 4), 1);
    }

    private static void promise9SixtyOrders() {
        Portinghall x = land();
        for (int order = 0; order < 60; order++) {
            Check.is("order", x.order(0, 0, 5, 10), order);
        }
        Check.noState("one more", () -> x.order(1, 0, 5, 10));
        Check.noArgument("one more with a bad minute", () -> x.order(1, 0, 5, 0));
        Check.is("the last one", x.of(59, 1), 2);
        Check.noIndex("there is no other", () -> x.of(60, 0));
    }

    private static void promise10Cancel() {
        Portinghall x = land();
        x.order(1, 0, 5, 10);
        x.order(1, 1, 5, 11);
        x.order(1, 2, 5, 109);
        x.order(0, 3, 5, 109);
        for (int bad : new int[] {-1, 4, 60, LOW, HIGH}) {
            Check.noIndex("cancel order " + bad, () -> x.cancel(bad));
        }
        Check.noState("cancel one that is rejected", () -> x.cancel(3));
        x.pass(1);
        Check.noState("9 minutes ahead", () -> x.cancel(0));
        Check.is("10 minutes ahead", x.cancel(1), 2);
        Check.is("it is cancelled", x.of(1, 0), Portinghall.CANCELLED);
        Check.is("its minute", x.of(1, 5), 11);
        Check.noState("cancel twice", () -> x.cancel(1));
        Check.is("none waits for it", x.number(1, 4), Portinghall.NONE);
        Check.is("its room", x.room(11), 3);
        x.pass(9);
        Check.noState("cancel one that is done", () -> x.cancel(0));
        Check.is("cancel the last one", x.cancel(2), 0);
        Check.is("none comes", x.pass(100), 0);
    }

    private static void promise11Reverse() {
        Portinghall x = land();
        x.give(1, 1);
        x.order(1, 0, 5, 10);
        x.order(0, 1, 5, 10);
        for (int bad : new int[] {-1, 2, LOW, HIGH}) {
            Check.noIndex("reverse order " + bad, () -> x.reverse(bad));
        }
        Check.noState("reverse one that waits", () -> x.reverse(0));
        Check.noState("reverse one that is rejected", () -> x.reverse(1));
        x.pass(10);
        Check.is("the winner paid", x.firm(1, 5), -5);
        Check.is("the donor has it", x.firm(0, 5), 5);
        Check.is("reverse", x.reverse(0), 0);
        Check.is("it is reversed", x.of(0, 0), Portinghall.REVERSED);
        Check.is("its donor", x.of(0, 4), 0);
        Check.is("it is served by", x.server(0), 0);
        Check.is("it was paid back to", x.firm(1, 5), 0);
        Check.is("it was paid back by", x.firm(0, 5), 0);
        Check.noState("reverse twice", () -> x.reverse(0));
        Check.is("a change of the way back", x.firm(4, 6), 1);
        x.pass(1);
        Check.is("all know that it is home", x.known(4, 0), 0);
        x.order(2, 2, 5, 15);
        x.pass(4);
        x.order(3, 2, 5, 16);
        x.pass(1);
        Check.is("back to one that is not the holder", x.reverse(3), 2);
        x.pass(1);
        Check.is("all know with whom", x.known(4, 2), 2);
    }

    private static void promise11WithinSixty() {
        Portinghall x = land();
        x.order(1, 0, 5, 10);
        x.order(1, 1, 5, 9);
        x.pass(69);
        Check.is("60 minutes behind", x.reverse(1), 0);
        x.pass(1);
        Check.is("60 minutes behind too", x.reverse(0), 0);
        x.order(1, 2, 5, 100);
        x.pass(91);
        Check.noState("61 minutes behind", () -> x.reverse(2));
    }

    private static void promise11NobodySince() {
        Portinghall x = land();
        x.order(1, 0, 5, 10);
        x.pass(10);
        x.order(2, 0, 5, 11);
        x.order(2, 1, 5, 11);
        Check.is("another order that waits does not matter", x.number(0, 4), 1);
        x.pass(1);
        Check.noState("another order was done since", () -> x.reverse(0));
        Check.is("that one can be", x.reverse(1), 1);
        Check.noState("another order was, though turned back", () -> x.reverse(0));
        x.order(0, 1, 5, 12);
        x.pass(1);
        Check.is("home by an order", x.server(1), 0);
        Check.noState("even if its donor serves it", () -> x.reverse(2));
        Check.is("the last one can be", x.reverse(3), 2);
    }

    private static void promise11Ends() {
        Portinghall x = land();
        for (int number = 0; number < 3; number++) {
            x.order(1, number, 5, 10);
        }
        x.order(2, 3, 5, 11);
        x.order(1, 4, 5, 11);
        x.pass(10);
        x.order(3, 1, 5, 11);
        x.pass(1);
        x.end(0);
        Check.noState("the number is not in use", () -> x.reverse(0));
        x.endFirm(1, 4);
        Check.noState("an end of a firm brought another one", () -> x.reverse(2));
        Check.noState("the donor is gone", () -> x.reverse(5));
        x.endFirm(4, 0);
        Check.noState("an heir is another one, the donor too", () -> x.reverse(4));
        Check.is("the heir of another firm does not matter", x.reverse(3), 0);
        Portinghall z = land();
        for (int number = 0; number < 8; number++) {
            z.order(1, number, 5, 10 + number / 3);
        }
        z.pass(12);
        z.endFirm(1, 2);
        for (int order = 0; order < 8; order++) {
            int done = order;
            Check.noState("whatever its number is", () -> z.reverse(done));
        }
        Portinghall y = land();
        y.order(1, 0, 5, 10);
        y.pass(10);
        y.endFirm(2, 1);
        Check.is("the winner as an heir does not matter", y.reverse(0), 0);
    }

    private static void promise12Pass() {
        Portinghall x = land();
        for (int bad : new int[] {0, -1, 101, LOW, HIGH}) {
            Check.noArgument("pass " + bad, () -> x.pass(bad));
        }
        x.order(1, 0, 5, 1);
        x.order(2, 1, 5, 3);
        x.order(1, 2, 5, 3);
        Check.is("pass one", x.pass(1), 1);
        Check.is("a minute went by", x.minute(), 1);
        Check.is("pass two", x.pass(2), 2);
        Check.is("two went by", x.minute(), 3);
        Check.is("done", x.of(1, 0), Portinghall.DONE);
        Check.is("account of 0", x.firm(0, 5), 15);
        Check.is("account of 1", x.firm(1, 5), -10);
        Check.is("account of 2", x.firm(2, 5), -5);
        Check.is("pass a hundred", x.pass(100), 0);
        Check.is("a hundred went by", x.minute(), 103);
        x.order(3, 1, 5, 110);
        x.endFirm(2, 4);
        Check.is("the donor is that of now as it was told", x.of(3, 4), 2);
        Check.is("it is done", x.pass(7), 1);
        Check.is("the donor is that as it was done", x.of(3, 4), 4);
        Check.is("it was paid", x.firm(4, 5), 5);
        Check.is("the one that is gone was not", x.firm(2, 5), -5);
    }

    private static void promise12PutOff() {
        Portinghall x = land();
        for (int number = 0; number < 3; number++) {
            x.order(1, number, 5, 10);
        }
        for (int number = 3; number < 5; number++) {
            x.order(1, number, 5, 110);
        }
        for (int number = 5; number < 8; number++) {
            x.order(1, number, 5, 210);
        }
        x.emergency(0);
        x.emergency(1);
        Check.is("only one is done", x.pass(10), 1);
        Check.is("the first one is put off by 100", x.of(0, 5), 110);
        Check.is("the second one by more", x.of(1, 5), 310);
        Check.is("it waits", x.of(1, 0), Portinghall.WAITING);
        Check.is("room there", x.room(310), 2);
        Check.is("no room", x.room(110), 0);
        Check.is("the next ones", x.pass(100), 3);
        Check.is("the first one is done", x.of(0, 0), Portinghall.DONE);
        x.pass(90);
        x.emergency(5);
        x.endFirm(2, 1);
        x.endFirm(0, 1);
        Check.is("the winner serves them", x.pass(10), 0);
        Check.is("put off ahead of being cancelled", x.of(5, 0), Portinghall.WAITING);
        Check.is("by 100", x.of(5, 5), 310);
        Check.is("cancelled", x.of(6, 0), Portinghall.CANCELLED);
        x.pass(100);
        Check.is("then cancelled", x.of(5, 0), Portinghall.CANCELLED);
        Check.is("cancelled where it was put off", x.of(1, 0), Portinghall.CANCELLED);
        Portinghall y = land();
        y.order(1, 0, 5, 30 + 71);
        y.pass(71);
        y.emergency(0);
        y.pass(30);
        Check.is("the last minute of the call back", y.of(0, 5), 201);
        Portinghall z = land();
        z.order(1, 0, 5, 101);
        z.pass(70);
        z.emergency(0);
        Check.is("the minute behind it", z.pass(31), 1);
    }

    private static void promise12LastMinute() {
        Portinghall x = land();
        for (int i = 0; i < 99; i++) {
            x.pass(100);
        }
        Check.noState("too far", () -> x.pass(100));
        Check.noArgument("out of range and too far", () -> x.pass(101));
        x.order(1, 0, 5, 10400);
        Check.is("behind the last minute", x.of(0, 0), Portinghall.WAITING);
        Check.is("room there", x.room(10400), 2);
        Check.is("to the last minute", x.pass(99), 0);
        Check.is("the last minute", x.minute(), 9999);
        Check.noState("one more", () -> x.pass(1));
        Check.noArgument("none more", () -> x.pass(0));
    }

    private static void promise12Learning() {
        Portinghall x = land();
        x.setLag(1, 1);
        x.setLag(2, 50);
        x.setDown(3, true);
        x.order(4, 0, 5, 10);
        x.pass(10);
        Check.is("learnt in that minute", x.known(5, 0), 4);
        Check.is("a lag of 1", x.known(1, 0), 0);
        x.pass(1);
        Check.is("a lag of 1, a minute later", x.known(1, 0), 4);
        x.pass(48);
        Check.is("a lag of 50, 49 minutes later", x.known(2, 0), 0);
        x.pass(1);
        Check.is("a lag of 50, 50 minutes later", x.known(2, 0), 4);
        Check.is("one that is down", x.known(3, 0), 0);
        x.setDown(3, false);
        Check.is("not down any more, but no minute went by", x.known(3, 0), 0);
        x.pass(1);
        Check.is("it learns", x.known(3, 0), 4);
        x.setDown(3, true);
        Check.is("what it knows it keeps", x.known(3, 0), 4);
        x.setLag(5, 50);
        x.pass(1);
        Check.is("with a greater lag too", x.known(5, 0), 4);
        x.endFirm(1, 2);
        x.order(5, 1, 5, 100);
        x.pass(38);
        Check.is("one that is gone learns with its lag", x.firm(1, 6), 1);
        x.pass(1);
        Check.is("and then knows", x.firm(1, 6), 0);
    }

    private static void promise13SetLag() {
        Portinghall x = new Portinghall();
        Check.is("the first one", x.setLag(0, 50), 0);
        Check.is("the one before", x.setLag(0, 7), 50);
        Check.is("none", x.setLag(0, 0), 7);
        x.setLag(5, 3);
        Check.is("told", x.firm(5, 4), 3);
        for (int bad : new int[] {-1, 6, LOW, HIGH}) {
            Check.noIndex("lag of firm " + bad, () -> x.setLag(bad, 51));
        }
        for (int bad : new int[] {-1, 51, LOW, HIGH}) {
            Check.noArgument("lag " + bad, () -> x.setLag(5, bad));
        }
        Check.is("it stays", x.firm(5, 4), 3);
        x.endFirm(5, 0);
        Check.is("of one that is gone", x.setLag(5, 4), 3);
    }

    private static void promise14SetDown() {
        Portinghall x = new Portinghall();
        Check.is("it was not", x.setDown(0, true), false);
        Check.is("it was", x.setDown(0, true), true);
        Check.is("told", x.firm(0, 3), 1);
        Check.is("it was too", x.setDown(0, false), true);
        Check.is("it was not any more", x.setDown(0, false), false);
        Check.is("another one is not", x.setDown(5, false), false);
        for (int bad : new int[] {-1, 6, LOW, HIGH}) {
            Check.noIndex("down " + bad, () -> x.setDown(bad, true) ? 1 : 0);
        }
    }

    private static void promise15Correct() {
        Portinghall x = land();
        for (int firm = 0; firm < 6; firm++) {
            x.setLag(firm, 50);
        }
        x.setDown(2, true);
        x.order(1, 0, 5, 10);
        x.order(1, 1, 5, 10);
        x.pass(10);
        x.reverse(0);
        Check.is("known ahead of that", x.known(2, 1), 0);
        Check.is("correct", x.correct(2), 3);
        Check.is("known behind that", x.known(2, 1), 1);
        Check.is("the last one counts", x.known(2, 0), 0);
        Check.is("none is left", x.firm(2, 6), 0);
        Check.is("correct again", x.correct(2), 0);
        Check.is("another firm", x.firm(3, 6), 3);
        x.pass(49);
        Check.is("what was learnt is not lost by a lag", x.known(2, 1), 1);
        for (int bad : new int[] {-1, 6, LOW, HIGH}) {
            Check.noIndex("correct " + bad, () -> x.correct(bad));
        }
    }
}
