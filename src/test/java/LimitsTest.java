/** Objects that are used to their limits: all orders, all numbers, all firms, all calls. */
public final class LimitsTest {
    public static void main(String[] args) {
        allNumbersAtOnce();
        sixtyOrdersDone();
        sixtyOrdersPutOff();
        firmsToTheLast();
        manyEvents();
        farBeyondItsCalls();
        Check.finish("LimitsTest");
    }

    private static Portinghall full() {
        Portinghall x = new Portinghall();
        for (int block = 0; block < 20; block++) {
            Check.is("give " + block, x.give(block, 0), block + 1);
        }
        for (int number = 0; number < 200; number++) {
            Check.is("assign " + number, x.assign(number, number / 2), 0);
        }
        return x;
    }

    private static void allNumbersAtOnce() {
        Portinghall x = full();
        Check.is("numbers of 0", x.firm(0, 2), 200);
        Check.is("an heir of all", x.endFirm(0, 5), 200);
        Check.is("blocks of 5", x.firm(5, 1), 20);
        Check.is("numbers of 5", x.firm(5, 2), 200);
        Check.is("without a change", x.firm(3, 6), 0);
        Check.is("without a fault", x.audit(3), 0);
        x.end(190);
        Check.noState("the last block is busy", () -> x.giveBack(19));
        for (int number = 191; number < 200; number++) {
            Check.is("end " + number, x.end(number), 5);
        }
        x.pass(100);
        Check.is("the last block", x.giveBack(19), 5);
        for (int number = 0; number < 10; number++) {
            x.end(number);
        }
        x.pass(100);
        Check.is("the first block, beside a busy one", x.giveBack(0), 5);
    }

    /** Three orders a minute fill a window with all sixty. */
    private static Portinghall withSixtyOrders() {
        Portinghall x = full();
        for (int order = 0; order < 60; order++) {
            Check.is("order", x.order(1, order * 3, order * 3 / 2, 100 + order / 3), order);
            Check.is("it waits", x.of(order, 0), Portinghall.WAITING);
        }
        return x;
    }

    private static void sixtyOrdersDone() {
        Portinghall x = withSixtyOrders();
        Check.is("the last one waits", x.number(177, 4), 59);
        Check.is("a number without one", x.number(199, 4), Portinghall.NONE);
        Check.is("room where the last ones wait", x.room(119), 0);
        Check.is("cancel one", x.cancel(59), 59);
        Check.is("room there", x.room(119), 1);
        Check.noIndex("no more", () -> x.cancel(60));
        Check.noIndex("no more to reverse", () -> x.reverse(60));
        x.setDown(4, true);
        Check.is("none yet", x.pass(99), 0);
        Check.is("all but the last minute's", x.pass(19), 57);
        Check.is("the last minute's", x.pass(1), 2);
        Check.is("paid", x.firm(1, 5), -295);
        Check.is("not known", x.audit(4), 59);
        Check.is("changes", x.firm(4, 6), 59);
        for (int order = 0; order < 59; order++) {
            Check.is("reverse", x.reverse(order), 0);
        }
        Check.is("paid back", x.firm(1, 5), 0);
        Check.is("all is home again", x.audit(4), 0);
        Check.is("changes there and back", x.correct(4), 118);
    }

    private static void sixtyOrdersPutOff() {
        Portinghall x = withSixtyOrders();
        x.pass(99);
        for (int order = 0; order < 60; order++) {
            x.emergency(order * 3);
        }
        Check.is("all are put off", x.pass(20), 0);
        for (int order = 0; order < 60; order++) {
            Check.is("by a hundred", x.of(order, 5), 200 + order / 3);
        }
        Check.is("no room", x.room(219), 0);
        Check.is("and done", x.pass(100), 60);
    }

    private static void firmsToTheLast() {
        Portinghall x = withSixtyOrders();
        x.setDown(5, true);
        x.pass(100);
        Check.is("the window's end", x.pass(19), 57);
        for (int firm = 1; firm < 5; firm++) {
            Check.is("an heir", x.endFirm(firm, firm + 1), 60);
        }
        Check.is("each is with the last heir", x.server(177), 5);
        Check.is("all changes", x.firm(5, 6), 60 * 5);
        Check.is("by a table that knows none of them", x.audit(5), 60);
        Check.is("the last heir", x.endFirm(0, 5), 140);
        Check.is("the heir served the sixty, and now holds them", x.firm(5, 6), 60 * 6);
        Check.is("right though it knows nothing", x.audit(5), 0);
        Check.is("nobody is left", x.firm(0, 0) + x.firm(4, 0), 2);
        for (int other = 0; other < 5; other++) {
            int gone = other;
            Check.noState("no heir is left", () -> x.endFirm(5, gone));
        }
        Check.is("server anew", x.serverAnew(0), 5);
    }

    /** More than 500 calls that each change who serves a number. */
    private static void manyEvents() {
        Portinghall x = full();
        for (int number = 0; number < 200; number++) {
            x.end(number);
        }
        x.pass(100);
        for (int number = 0; number < 85; number++) {
            x.assign(number, 1);
        }
        Check.is("call 507", x.serverAnew(84), 0);
        Check.is("call 508", x.endFirm(0, 3), 85);
        Check.is("call 509", x.serverAnew(84), 3);
        Check.is("call 510", x.end(84), 3);
        Check.is("call 511", x.serverAnew(84), Portinghall.NONE);
        Check.is("call 512", x.serverAnew(83), 3);
    }

    /** What is answered then is free, but nothing may be thrown that the document does not name. */
    private static void farBeyondItsCalls() {
        Portinghall x = full();
        for (int round = 0; round < 98; round++) {
            for (int number = 0; number < 200; number++) {
                int each = number;
                isAnswered("end", () -> x.end(each));
            }
            isAnswered("pass", () -> x.pass(100));
            for (int number = 0; number < 200; number++) {
                int each = number;
                isAnswered("assign", () -> x.assign(each, 1));
            }
        }
        isAnswered("serverAnew", () -> x.serverAnew(199));
        isAnswered("endFirm", () -> x.endFirm(0, 1));
        isAnswered("serverAnew", () -> x.serverAnew(0));
    }

    private static void isAnswered(String what, Check.Call call) {
        String outcome = Check.outcome(call);
        boolean isNamed = outcome.equals("throws.IndexOutOfBoundsException")
            || outcome.equals("throws.IllegalArgumentException") || outcome.equals("throws.IllegalStateException");
        Check.note(isNamed || !outcome.startsWith("throws"), what + ", far beyond the last call, " + outcome);
    }
}
