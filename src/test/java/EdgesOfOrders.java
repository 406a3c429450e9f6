/** The edges of promises 9 to 15, and of what the terms say of orders, changes and tables. */
final class EdgesOfOrders {
    private static final int NONE = Edge.NONE;
    private static final int LOW = Edge.LOW;
    private static final int HIGH = Edge.HIGH;
    private static final int REJECTED = Portinghall.REJECTED;
    private static final int WAITING = Portinghall.WAITING;
    private static final int DONE = Portinghall.DONE;
    private static final int CANCELLED = Portinghall.CANCELLED;
    private static final int REVERSED = Portinghall.REVERSED;
    private static final int[] ALL = {0, 1, 2, 3, 4, 5};

    private EdgesOfOrders() {
    }

    static void run() {
        orderArguments();
        orderMinutes();
        orderWindows();
        orderReasons();
        orderReasonsAlone();
        orderThreeAMinute();
        orderDonor();
        orderSixty();
        cancel();
        cancelTime();
        reverse();
        reverseTime();
        reverseSince();
        reverseChanges();
        pass();
        passDone();
        passPutOff();
        passPutOffChains();
        passWinnerServes();
        passLearning();
        passLearningOrder();
        setLag();
        setDown();
        correct();
    }

    private static void orderArguments() {
        Edge.of(9, "`firm`: 0 to 5: who wins", x -> {
            x.give(0, 3);
            x.assign(0, 5);
            x.assign(1, 5);
            for (int bad : Edge.NO_FIRMS) {
                x.order(bad, 0, 5, 10).noIndex();
            }
            x.order(0, 0, 5, 10).is(0);
            x.order(5, 1, 5, 10).is(1);
            x.of(0, 3).is(0);
            x.of(1, 3).is(5);
            x.pass(10).is(2);
            x.server(0).is(0);
            x.server(1).is(5);
        });
        Edge.of(9, "`number`: 0 to 199", x -> {
            x.give(0, 3);
            x.give(19, 3);
            x.assign(0, 5);
            x.assign(199, 5);
            for (int bad : Edge.NO_NUMBERS) {
                x.order(1, bad, 5, 10).noIndex();
            }
            x.order(1, 0, 5, 10).is(0);
            x.order(1, 199, 5, 10).is(1);
            x.of(0, 0).is(WAITING);
            x.of(1, 0).is(WAITING);
            x.of(1, 2).is(199);
        });
        Edge.of(9, "`secret`: 0 to 99", x -> {
            x.give(0, 3);
            x.assign(0, 0);
            x.assign(1, 99);
            for (int bad : Edge.NO_SECRETS) {
                x.order(1, 0, bad, 10).noArgument();
            }
            x.order(1, 0, 0, 10).is(0);
            x.order(1, 1, 99, 10).is(1);
            x.of(0, 0).is(WAITING);
            x.of(1, 0).is(WAITING);
        });
        Edge.of(9, "Tells an order.", x -> {
            x.withNumbers();
            // One that is REJECTED is an order as well.
            x.order(1, 100, 5, 10).is(0);
            x.of(0, 0).is(REJECTED);
            x.of(0, 2).is(100);
            x.order(1, 0, 5, 10).is(1);
            x.of(1, 0).is(WAITING);
        });
        Edge.of(9, "An order is told by the firm that wins, the number, a secret, and a minute.", x -> {
            x.withNumbers();
            x.order(4, 7, 5, 13).is(0);
            x.of(0, 2).is(7);
            x.of(0, 3).is(4);
            x.of(0, 5).is(13);
            x.server(7).is(0);
            x.firm(4, 5).is(0);
            x.firm(4, 6).is(0);
        });
        Edge.of(9, "Throws `IndexOutOfBoundsException` if there is no such firm or number", x -> {
            x.withNumbers();
            x.endFirm(5, 4);
            for (int bad : new int[] {-1, 6}) {
                x.order(bad, 0, 100, 10).noIndex();
                x.order(bad, 0, 5, 0).noIndex();
            }
            for (int bad : new int[] {-1, 200}) {
                x.order(1, bad, -1, 10).noIndex();
                x.order(1, bad, 5, 501).noIndex();
                x.order(5, bad, 5, 10).noIndex();
            }
        });
        Edge.of(9, "Throws `IllegalArgumentException` if secret or minute is out of range", x -> {
            x.withNumbers();
            x.endFirm(5, 4);
            x.order(5, 0, -1, 10).noArgument();
            x.order(5, 0, 100, 10).noArgument();
            x.order(5, 0, 5, 0).noArgument();
            x.order(5, 0, 5, 501).noArgument();
            x.order(1, 0, 100, 501).noArgument();
            // Nor is it an order that is REJECTED.
            x.order(1, 150, 100, 10).noArgument();
            x.order(1, 150, 5, 0).noArgument();
            x.order(0, 0, 5, 0).noArgument();
        });
        Edge.of(9, "if the firm is GONE", x -> {
            x.withNumbers();
            x.endFirm(5, 4);
            x.order(5, 0, 5, 10).noState();
            x.order(5, 150, 5, 10).noState();
            x.order(4, 0, 5, 10).is(0);
        });
    }

    private static void orderMinutes() {
        Edge.of(9, "`minute`: from the next one to 500 behind that of now", x -> {
            x.withNumbers();
            for (int bad : new int[] {0, -1, LOW, 501, 600, HIGH}) {
                x.order(1, 0, 5, bad).noArgument();
            }
            x.order(1, 0, 5, 1).is(0);
            x.order(1, 1, 5, 500).is(1);
            x.of(0, 0).is(WAITING);
            x.of(1, 0).is(WAITING);
            x.of(0, 5).is(1);
            x.of(1, 5).is(500);
        });
        Edge.of(9, "`minute`: from the next one to 500 behind that of now", x -> {
            x.withNumbers();
            x.pass(13);
            for (int bad : new int[] {13, 12, 0, 514, HIGH}) {
                x.order(1, 0, 5, bad).noArgument();
            }
            x.order(1, 0, 5, 14).is(0);
            x.order(1, 1, 5, 513).is(1);
            x.of(0, 0).is(WAITING);
            x.of(1, 0).is(WAITING);
        });
        Edge.of(9, "`minute`: from the next one to 500 behind that of now", x -> {
            x.withNumbers();
            x.passTo(9999);
            for (int bad : new int[] {9999, 10500, HIGH}) {
                x.order(1, 0, 5, bad).noArgument();
            }
            // Minutes that never come can be waited for all the same.
            x.order(1, 0, 5, 10000).is(0);
            x.of(0, 0).is(WAITING);
            x.room(10000).is(2);
            x.order(1, 1, 5, 10499).is(1);
            x.of(1, 1).is(6);
            x.cancel(0).noState();
        });
        Edge.of(9, "`minute`: from the next one to 500 behind that of now", x -> {
            x.withNumbers();
            x.passTo(9900);
            x.order(1, 0, 5, 10400).is(0);
            x.order(1, 1, 5, 10401).noArgument();
            x.of(0, 0).is(WAITING);
            x.cancel(0).is(0);
        });
    }

    private static void orderWindows() {
        Edge.of(9, "A minute m is in a window, if m modulo 100 is below 20", x -> {
            x.withNumbers();
            int[] minutes = {1, 19, 20, 99, 100, 119, 120, 199, 200, 500};
            boolean[] inWindow = {true, true, false, false, true, true, false, false, true, true};
            int number = 0;
            for (int i = 0; i < minutes.length; i++) {
                x.order(1, number, 5, minutes[i]).is(i);
                x.of(i, 0).is(inWindow[i] ? WAITING : REJECTED);
                x.of(i, 1).is(inWindow[i] ? 0 : 6);
                number += inWindow[i] ? 1 : 0;
            }
        });
        Edge.of(9, "A minute m is in a window, if m modulo 100 is below 20", x -> {
            x.withNumbers();
            // The minute of now matters nothing: 50 is in no window.
            x.pass(50);
            x.order(1, 0, 5, 51).is(0);
            x.of(0, 1).is(6);
            x.order(1, 0, 5, 100).is(1);
            x.of(1, 0).is(WAITING);
            x.order(1, 1, 5, 519).is(2);
            x.of(2, 0).is(WAITING);
            x.order(1, 2, 5, 520).is(3);
            x.of(3, 1).is(6);
        });
    }

    private static void rejected(Land x, int firm, int number, int secret, int minute, int order, int reason) {
        x.order(firm, number, secret, minute).is(order);
        x.of(order, 0).is(REJECTED);
        x.of(order, 1).is(reason);
        x.of(order, 5).is(minute);
    }

    private static final String REASONS = "It is REJECTED, for the first reason that is so: 1 the number is not in use; "
        + "2 that firm serves it; 3 the secret is another one; 4 another order for it is WAITING; "
        + "5 it is silent, as a card was swapped; 6 the minute is in no window; 7 three orders wait for that minute; "
        + "otherwise it is WAITING.";

    /** Each reason where others are so too. */
    private static void orderReasons() {
        Edge.of(9, REASONS, x -> {
            x.withNumbers();
            x.order(1, 0, 5, 10).is(0);
            x.order(1, 1, 5, 10).is(1);
            x.order(1, 2, 5, 10).is(2);
            // 1 ahead of 3, 6 and 7.
            rejected(x, 1, 10, 9, 10, 3, 1);
            rejected(x, 1, 10, 9, 20, 4, 1);
            rejected(x, 0, 199, 0, 99, 5, 1);
            // 2 ahead of 3, 4, 6 and 7.
            rejected(x, 0, 0, 9, 10, 6, 2);
            rejected(x, 0, 0, 5, 20, 7, 2);
            rejected(x, 0, 3, 9, 20, 8, 2);
            rejected(x, 0, 3, 5, 10, 9, 2);
            // 3 ahead of 4, 6 and 7.
            rejected(x, 1, 0, 9, 10, 10, 3);
            rejected(x, 1, 3, 9, 20, 11, 3);
            rejected(x, 1, 3, 9, 10, 12, 3);
            // 4 ahead of 6 and 7.
            rejected(x, 1, 0, 5, 20, 13, 4);
            rejected(x, 2, 0, 5, 10, 14, 4);
            // 6 alone, and 7 alone.
            rejected(x, 1, 3, 5, 20, 15, 6);
            rejected(x, 1, 3, 5, 10, 16, 7);
            x.order(1, 3, 5, 11).is(17);
            x.of(17, 0).is(WAITING);
            x.of(17, 1).is(0);
        });
        Edge.of(9, REASONS, x -> {
            x.withNumbers();
            x.order(1, 0, 5, 10).is(0);
            x.order(1, 1, 5, 10).is(1);
            x.order(1, 2, 5, 10).is(2);
            x.swap(0, 6);
            x.swap(3, 6);
            x.swap(4, 6);
            x.end(4);
            // 1, 2, 3 and 4 ahead of 5, and 5 ahead of 6 and 7.
            rejected(x, 1, 4, 6, 11, 3, 1);
            rejected(x, 0, 3, 6, 11, 4, 2);
            rejected(x, 1, 3, 5, 11, 5, 3);
            rejected(x, 2, 0, 6, 11, 6, 4);
            rejected(x, 1, 3, 6, 11, 7, 5);
            rejected(x, 1, 3, 6, 20, 8, 5);
            rejected(x, 1, 3, 6, 10, 9, 5);
        });
    }

    private static void orderReasonsAlone() {
        Edge.of(9, "1 the number is not in use", x -> {
            x.give(0, 0);
            rejected(x, 1, 0, 5, 10, 0, 1);
            x.assign(0, 5);
            x.end(0);
            rejected(x, 1, 0, 5, 10, 1, 1);
            x.pass(100);
            rejected(x, 1, 0, 5, 110, 2, 1);
            x.assign(0, 5);
            x.order(1, 0, 5, 110).is(3);
            x.of(3, 0).is(WAITING);
        });
        Edge.of(9, "2 that firm serves it", x -> {
            x.withNumbers();
            rejected(x, 0, 0, 5, 10, 0, 2);
            x.move(0, 3, 0);
            rejected(x, 3, 0, 5, 10, 2, 2);
            // The holder serves it no more, so that it can win it.
            x.order(0, 0, 5, 10).is(3);
            x.of(3, 0).is(WAITING);
        });
        Edge.of(9, "3 the secret is another one", x -> {
            x.give(0, 0);
            x.assign(0, 0);
            rejected(x, 1, 0, 1, 10, 0, 3);
            rejected(x, 1, 0, 99, 10, 1, 3);
            x.order(1, 0, 0, 10).is(2);
            x.of(2, 0).is(WAITING);
        });
        Edge.of(9, "4 another order for it is WAITING", x -> {
            x.withNumbers();
            x.order(1, 0, 5, 100).is(0);
            rejected(x, 1, 0, 5, 110, 1, 4);
            rejected(x, 2, 0, 5, 100, 2, 4);
            // Another number's matters nothing, nor one that is REJECTED, CANCELLED, DONE or REVERSED.
            x.order(1, 1, 5, 100).is(3);
            x.of(3, 0).is(WAITING);
            x.cancel(0);
            x.order(2, 0, 5, 100).is(4);
            x.of(4, 0).is(WAITING);
            x.pass(100).is(2);
            x.order(3, 0, 5, 101).is(5);
            x.of(5, 0).is(WAITING);
            x.pass(1).is(1);
            x.reverse(5).is(2);
            x.order(4, 0, 5, 102).is(6);
            x.of(6, 0).is(WAITING);
        });
        Edge.of(9, "5 it is silent, as a card was swapped", x -> {
            x.withNumbers();
            x.swap(0, 5);
            rejected(x, 1, 0, 5, 100, 0, 5);
            x.pass(49);
            rejected(x, 1, 0, 5, 100, 1, 5);
            x.pass(1);
            x.order(1, 0, 5, 100).is(2);
            x.of(2, 0).is(WAITING);
        });
        Edge.of(9, "otherwise it is WAITING", x -> {
            x.withNumbers();
            // That a number may be called back is no reason.
            x.emergency(0);
            x.order(1, 0, 5, 10).is(0);
            x.of(0, 0).is(WAITING);
            x.number(0, 4).is(0);
            x.number(1, 4).is(NONE);
        });
    }

    private static void orderThreeAMinute() {
        Edge.of(9, "at most 3 orders wait for one minute", x -> {
            x.withNumbers();
            x.order(1, 0, 5, 110).is(0);
            x.order(1, 1, 5, 110).is(1);
            x.order(1, 2, 5, 110).is(2);
            x.of(2, 0).is(WAITING);
            x.room(110).is(0);
            rejected(x, 1, 3, 5, 110, 3, 7);
            x.order(1, 3, 5, 111).is(4);
            x.order(1, 4, 5, 109).is(5);
            x.of(4, 0).is(WAITING);
            x.of(5, 0).is(WAITING);
            x.cancel(1).is(4);
            x.order(1, 1, 5, 110).is(6);
            x.of(6, 0).is(WAITING);
            rejected(x, 1, 5, 5, 110, 7, 7);
            x.end(0);
            x.order(1, 5, 5, 110).is(8);
            x.of(8, 0).is(WAITING);
        });
        Edge.of(9, "7 three orders wait for that minute", x -> {
            x.withNumbers();
            x.order(1, 0, 5, 10);
            x.order(1, 1, 5, 110);
            x.order(1, 2, 5, 110);
            x.emergency(0);
            x.pass(10);
            // The third one that waits was put off to it.
            x.of(0, 5).is(110);
            rejected(x, 1, 3, 5, 110, 3, 7);
        });
    }

    private static void orderDonor() {
        Edge.of(9, "The donor of an order is the firm that served the number as it was told", x -> {
            x.withNumbers();
            x.move(0, 3, 0);
            x.order(2, 0, 5, 110);
            x.order(2, 1, 5, 110);
            x.order(2, 0, 4, 110);
            x.order(2, 1, 4, 110);
            x.of(1, 4).is(3);
            x.of(2, 4).is(0);
            x.of(3, 4).is(3);
            x.of(4, 4).is(0);
            x.endFirm(3, 4);
            x.endFirm(0, 5);
            x.of(1, 4).is(3);
            x.of(2, 4).is(0);
            x.cancel(1);
            x.of(1, 4).is(3);
            x.of(3, 4).is(3);
        });
        Edge.of(9, "of one that is DONE or REVERSED, as it was done", x -> {
            x.withNumbers();
            x.order(2, 0, 5, 10);
            x.of(0, 4).is(0);
            x.endFirm(0, 5);
            x.of(0, 4).is(0);
            x.pass(10).is(1);
            x.of(0, 4).is(5);
            x.firm(5, 5).is(5);
            x.firm(0, 5).is(0);
            x.reverse(0).is(5);
            x.of(0, 4).is(5);
            x.endFirm(5, 1);
            x.of(0, 4).is(5);
        });
        Edge.of(9, "NONE without one", x -> {
            x.order(2, 0, 5, 10);
            x.of(0, 4).is(NONE);
            x.give(0, 0);
            x.order(2, 0, 5, 10);
            x.of(1, 4).is(NONE);
            x.assign(0, 5);
            x.of(0, 4).is(NONE);
            x.order(2, 0, 4, 10);
            x.of(2, 4).is(0);
            x.end(0);
            x.of(2, 4).is(0);
            x.order(2, 0, 5, 10);
            x.of(3, 4).is(NONE);
        });
    }

    private static void orderSixty() {
        Edge.of(9, "Orders are numbered from 0, at most 60.", x -> {
            for (int order = 0; order < 60; order++) {
                x.order(1, 0, 5, 10).is(order);
            }
            x.order(1, 0, 5, 10).noState();
            x.of(59, 0).is(REJECTED);
            x.of(60, 0).noIndex();
            x.cancel(60).noIndex();
            x.reverse(60).noIndex();
        });
        Edge.of(9, "Throws `IllegalStateException` if the firm is GONE, or there are 60", x -> {
            x.withNumbers();
            for (int order = 0; order < 58; order++) {
                x.order(0, 0, 5, 10).is(order);
            }
            x.order(1, 0, 5, 10).is(58);
            x.order(1, 1, 5, 10).is(59);
            x.order(1, 2, 5, 10).noState();
            x.order(1, 2, 100, 10).noArgument();
            x.order(1, 2, 5, 0).noArgument();
            x.order(1, 200, 5, 10).noIndex();
            x.order(6, 2, 5, 10).noIndex();
            x.cancel(59).is(1);
            x.pass(10).is(1);
            x.reverse(58).is(0);
            // None of them is there no more, whatever became of it.
            x.order(1, 2, 5, 11).noState();
        });
        Edge.of(9, "Returns its number.", x -> {
            x.withNumbers();
            x.order(1, 0, 5, 10).is(0);
            x.order(1, 0, 5, 10).is(1);
            x.order(1, 0, 100, 10).noArgument();
            x.order(1, 1, 5, 10).is(2);
            x.pass(10);
            x.order(1, 2, 5, 11).is(3);
        });
    }

    private static void cancel() {
        Edge.of(10, "`order`: its number", x -> {
            x.withNumbers();
            x.cancel(0).noIndex();
            x.order(1, 0, 5, 10);
            x.order(1, 1, 5, 10);
            for (int bad : new int[] {-1, 2, 59, 60, LOW, HIGH}) {
                x.cancel(bad).noIndex();
            }
            x.cancel(0).is(1);
            x.cancel(1).is(0);
        });
        Edge.of(10, "Throws `IndexOutOfBoundsException` if there is no such order", x -> {
            x.cancel(-1).noIndex();
            x.cancel(0).noIndex();
        });
        Edge.of(10, "Cancels an order.", x -> {
            x.withNumbers();
            x.order(1, 0, 5, 10);
            x.cancel(0).is(0);
            x.of(0, 0).is(CANCELLED);
            x.of(0, 5).is(10);
            x.of(0, 1).is(0);
            x.number(0, 4).is(NONE);
            x.room(10).is(3);
            x.pass(10).is(0);
            x.server(0).is(0);
            x.firm(1, 5).is(0);
        });
        Edge.of(10, "Returns how many are WAITING then.", x -> {
            x.withSixtyOrders();
            for (int order = 59; order >= 0; order--) {
                x.cancel(order).is(order);
            }
        });
        Edge.of(10, "Returns how many are WAITING then.", x -> {
            x.withNumbers();
            x.order(1, 0, 5, 1);
            x.order(1, 1, 5, 100);
            x.order(1, 2, 5, 200);
            x.order(1, 2, 5, 200);
            x.order(2, 3, 5, 200);
            x.pass(1);
            x.reverse(0);
            // What is REVERSED or REJECTED does not wait.
            x.cancel(1).is(2);
            x.endFirm(2, 3);
            x.cancel(2).is(0);
        });
        Edge.of(10, "Throws `IllegalStateException` if it is not WAITING", x -> {
            x.withNumbers();
            x.order(1, 0, 5, 100);
            x.order(1, 0, 5, 100);
            x.order(1, 1, 5, 100);
            x.order(1, 2, 5, 100);
            x.order(2, 3, 5, 101);
            x.cancel(1).noState();
            x.cancel(0).is(3);
            x.cancel(0).noState();
            x.end(1);
            x.cancel(2).noState();
            x.endFirm(2, 3);
            x.cancel(4).noState();
            x.pass(100).is(1);
            x.cancel(3).noState();
            x.reverse(3);
            x.cancel(3).noState();
        });
    }

    private static void cancelTime() {
        Edge.of(10, "A WAITING order can be cancelled, if its minute is 10 or more behind that of now.", x -> {
            x.withNumbers();
            x.order(1, 0, 5, 10);
            x.order(1, 1, 5, 11);
            x.order(1, 2, 5, 500);
            x.pass(1);
            x.cancel(0).noState();
            x.cancel(1).is(2);
            x.cancel(2).is(1);
            x.of(0, 0).is(WAITING);
        });
        Edge.of(10, "or its minute is less than 10 behind that of now", x -> {
            x.withNumbers();
            x.order(1, 0, 5, 1);
            x.order(1, 1, 5, 9);
            x.order(1, 2, 5, 10);
            x.cancel(0).noState();
            x.cancel(1).noState();
            x.cancel(2).is(2);
        });
        Edge.of(10, "or its minute is less than 10 behind that of now", x -> {
            x.withNumbers();
            x.order(1, 0, 5, 10);
            x.emergency(0);
            x.pass(9);
            x.cancel(0).noState();
            x.pass(1).is(0);
            // It was put off, so that it is far off again.
            x.pass(90);
            x.of(0, 5).is(110);
            x.cancel(0).is(0);
            x.of(0, 5).is(110);
        });
    }

    private static final String TURNED_BACK = "A DONE order can be turned back, within 60 minutes behind that in which it was done "
        + "(the last one with them), as long as the number is in use, the donor is not GONE, and nobody else came to serve it "
        + "since by another order (turned back by now or not) or an end of a firm: the donor serves it again, "
        + "and pays back the 5; the order is REVERSED.";

    private static void reverse() {
        Edge.of(11, "`order`: its number", x -> {
            x.withNumbers();
            x.reverse(0).noIndex();
            x.order(1, 0, 5, 1);
            x.order(1, 1, 5, 1);
            for (int bad : new int[] {-1, 2, 59, 60, LOW, HIGH}) {
                x.reverse(bad).noIndex();
            }
            x.pass(1).is(2);
            x.reverse(0).is(0);
            x.reverse(1).is(0);
        });
        Edge.of(11, "Throws `IndexOutOfBoundsException` if there is no such order", x -> {
            x.reverse(-1).noIndex();
            x.reverse(0).noIndex();
        });
        Edge.of(11, "Turns an order back.", x -> {
            x.withNumbers();
            x.order(3, 0, 5, 10);
            x.order(3, 1, 5, 10);
            x.pass(10).is(2);
            x.firm(3, 5).is(-10);
            x.firm(0, 5).is(10);
            x.reverse(0).is(0);
            x.of(0, 0).is(REVERSED);
            x.of(0, 4).is(0);
            x.of(0, 5).is(10);
            x.of(1, 0).is(DONE);
            x.firm(3, 5).is(-5);
            x.firm(0, 5).is(5);
            x.server(0).is(0);
            x.serverAnew(0).is(0);
            x.server(1).is(3);
        });
        Edge.of(11, "Returns the firm that serves the number then.", x -> {
            x.withNumbers();
            x.move(0, 5, 0);
            x.move(0, 4, 0);
            x.reverse(1).is(5);
            x.server(0).is(5);
        });
        Edge.of(11, "Throws `IllegalStateException` if it cannot be", x -> {
            x.withNumbers();
            x.order(1, 0, 5, 10);
            x.order(1, 0, 5, 10);
            x.order(1, 1, 5, 10);
            x.reverse(0).noState();
            x.reverse(1).noState();
            x.cancel(2);
            x.reverse(2).noState();
            x.pass(10);
            x.reverse(1).noState();
            x.reverse(2).noState();
            x.reverse(0).is(0);
            x.reverse(0).noState();
        });
        Edge.of(11, "the donor serves it again, and pays back the 5", x -> {
            x.withNumbers();
            x.order(1, 0, 5, 10);
            x.pass(10);
            x.swap(0, 9);
            x.emergency(0);
            x.reverse(0).is(0);
            // The secret and the rest of the contract stay as they are.
            x.number(0, 2).is(1);
            x.number(0, 3).is(1);
            x.swap(0, 8).is(9);
        });
    }

    private static void reverseTime() {
        Edge.of(11, "within 60 minutes behind that in which it was done (the last one with them)", x -> {
            x.withNumbers();
            x.order(1, 0, 5, 10);
            x.order(1, 1, 5, 10);
            x.order(1, 2, 5, 10);
            x.pass(10);
            x.reverse(0).is(0);
            x.pass(60);
            x.reverse(1).is(0);
            x.pass(1);
            x.reverse(2).noState();
        });
        Edge.of(11, "within 60 minutes behind that in which it was done (the last one with them)", x -> {
            x.withNumbers();
            x.order(1, 0, 5, 10);
            x.order(1, 1, 5, 10);
            x.emergency(0);
            x.emergency(1);
            x.pass(100);
            x.pass(10);
            // It was done in 110, not in the minute for which it was told.
            x.of(0, 0).is(DONE);
            x.pass(60);
            x.reverse(0).is(0);
            x.pass(1);
            x.reverse(1).noState();
        });
    }

    private static void reverseSince() {
        Edge.of(11, "as long as the number is in use", x -> {
            x.withNumbers();
            x.order(1, 0, 5, 1);
            x.pass(1);
            x.end(0);
            x.reverse(0).noState();
            x.pass(59);
            x.reverse(0).noState();
        });
        Edge.of(11, "the donor is not GONE", x -> {
            x.withNumbers();
            x.give(1, 4);
            x.assign(10, 5);
            x.order(1, 0, 5, 1);
            x.order(1, 10, 5, 1);
            x.pass(1);
            x.endFirm(0, 3);
            x.reverse(0).noState();
            // Another firm that is GONE matters nothing.
            x.reverse(1).is(4);
        });
        Edge.of(11, "the donor is not GONE", x -> {
            x.withNumbers();
            x.order(1, 0, 5, 1);
            x.pass(1);
            // The winner inherits all from the donor, and so nobody can take the number back.
            x.endFirm(0, 1);
            x.reverse(0).noState();
            x.server(0).is(1);
        });
        Edge.of(11, "nobody else came to serve it since by another order (turned back by now or not)", x -> {
            x.withNumbers();
            x.order(1, 0, 5, 1);
            x.pass(1);
            x.order(2, 0, 5, 2);
            x.reverse(0).is(0);
            x.pass(1).is(1);
            x.reverse(1).is(0);
        });
        Edge.of(11, "nobody else came to serve it since by another order (turned back by now or not)", x -> {
            x.withNumbers();
            x.order(1, 0, 5, 1);
            x.pass(1);
            x.order(2, 0, 5, 2);
            x.pass(1);
            x.reverse(0).noState();
            x.reverse(1).is(1);
            x.server(0).is(1);
            x.reverse(0).noState();
        });
        Edge.of(11, "nobody else came to serve it since by another order (turned back by now or not)", x -> {
            x.withNumbers();
            x.order(1, 0, 5, 1);
            x.order(1, 1, 5, 1);
            x.pass(1);
            // What is REJECTED, CANCELLED or WAITING brought nobody, and another number's order neither.
            x.order(2, 0, 4, 2);
            x.order(2, 0, 5, 100);
            x.cancel(3);
            x.order(2, 0, 5, 100);
            x.order(2, 1, 5, 2);
            x.pass(1).is(1);
            x.reverse(0).is(0);
            x.of(4, 0).is(WAITING);
            x.pass(98).is(1);
            x.of(4, 4).is(0);
            x.server(0).is(2);
        });
        Edge.of(11, "nobody else came to serve it since by another order (turned back by now or not)", x -> {
            x.withNumbers();
            x.order(1, 0, 5, 1);
            x.pass(1);
            x.order(0, 0, 5, 2);
            x.pass(1);
            // The donor serves it, but came to it by an order.
            x.reverse(0).noState();
            x.reverse(1).is(1);
            x.reverse(0).noState();
        });
        Edge.of(11, "nobody else came to serve it since by another order (turned back by now or not) or an end of a firm", x -> {
            x.withNumbers();
            x.order(1, 0, 5, 1);
            x.order(2, 1, 5, 1);
            x.pass(1);
            x.endFirm(1, 3);
            x.reverse(0).noState();
            x.endFirm(2, 0);
            x.server(1).is(0);
            x.reverse(1).noState();
        });
        Edge.of(11, "or an end of a firm", x -> {
            x.withNumbers();
            x.order(1, 0, 5, 1);
            x.pass(1);
            // An end of a firm by which nobody came to serve it.
            x.endFirm(2, 1).is(0);
            x.endFirm(3, 0).is(0);
            x.endFirm(4, 5).is(0);
            x.reverse(0).is(0);
        });
        Edge.of(11, TURNED_BACK, x -> {
            x.withNumbers();
            x.order(1, 0, 5, 1);
            x.pass(1);
            x.endFirm(1, 3);
            x.order(2, 0, 5, 2);
            x.pass(1).is(1);
            // Who came by an order behind an end of a firm can be turned back.
            x.reverse(0).noState();
            x.reverse(1).is(3);
            x.firm(3, 5).is(0);
            x.firm(2, 5).is(0);
        });
    }

    private static void reverseChanges() {
        Edge.of(11, "A change comes when another firm serves a number in use: HOME if that is the holder (by then), otherwise that firm", x -> {
            x.withNumbers();
            x.move(0, 1, ALL);
            x.reverse(0);
            x.firm(2, 6).is(1);
            x.known(2, 0).is(1);
            x.pass(1);
            x.firm(2, 6).is(0);
            x.known(2, 0).is(0);
            // That was HOME.
            x.endFirm(0, 3);
            x.known(2, 0).is(3);
        });
        Edge.of(11, "A change comes when another firm serves a number in use: HOME if that is the holder (by then), otherwise that firm", x -> {
            x.withNumbers();
            x.move(0, 1, ALL);
            x.move(0, 4, ALL);
            x.reverse(1).is(1);
            x.pass(1);
            x.known(2, 0).is(1);
            // That was the firm 1, which may come to hold the block.
            x.endFirm(0, 3);
            x.known(2, 0).is(1);
        });
        Edge.of(11, "HOME if that is the holder (by then)", x -> {
            x.withNumbers();
            x.move(0, 1, ALL);
            x.move(0, 4, ALL);
            x.endFirm(0, 1);
            x.firm(2, 6).is(0);
            x.reverse(1).is(1);
            x.pass(1);
            x.known(2, 0).is(1);
            // 1 holds the block by then.
            x.endFirm(1, 5);
            x.firm(2, 6).is(0);
            x.known(2, 0).is(5);
        });
    }

    private static void pass() {
        Edge.of(12, "`minutes`: 1 to 100", x -> {
            for (int bad : new int[] {0, -1, 101, 1000, LOW, HIGH}) {
                x.pass(bad).noArgument();
            }
            x.pass(1).is(0);
            x.minute().is(1);
            x.pass(100).is(0);
            x.minute().is(101);
        });
        Edge.of(12, "Throws `IllegalStateException` if the minute would be above 9999", x -> {
            x.passTo(9998);
            x.pass(2).noState();
            x.pass(1).is(0);
            x.pass(1).noState();
            x.minute().is(9999);
        });
        Edge.of(12, "Throws `IllegalStateException` if the minute would be above 9999", x -> {
            x.passTo(9900);
            x.pass(100).noState();
            x.pass(99).is(0);
            x.minute().is(9999);
            x.pass(1).noState();
            x.pass(100).noState();
        });
        Edge.of(12, "Throws `IllegalArgumentException` if minutes is out of range", x -> {
            x.passTo(9999);
            for (int bad : new int[] {0, -1, 101, LOW, HIGH}) {
                x.pass(bad).noArgument();
            }
        });
        Edge.of(12, "Minutes are counted from 0.", x -> {
            x.minute().is(0);
            x.pass(1);
            x.minute().is(1);
        });
    }

    private static void passDone() {
        Edge.of(12, "When its minute comes, a WAITING order is DONE: the firm that wins serves the number, and pays 5 to the donor.", x -> {
            x.withNumbers();
            x.order(1, 0, 5, 10);
            x.pass(9).is(0);
            x.of(0, 0).is(WAITING);
            x.server(0).is(0);
            x.firm(1, 5).is(0);
            x.pass(1).is(1);
            x.of(0, 0).is(DONE);
            x.of(0, 5).is(10);
            x.server(0).is(1);
            x.serverAnew(0).is(1);
            x.firm(1, 5).is(-5);
            x.firm(0, 5).is(5);
            x.number(0, 4).is(NONE);
            x.pass(100).is(0);
            x.firm(1, 5).is(-5);
        });
        Edge.of(12, "Returns how many orders are DONE in these.", x -> {
            x.withNumbers();
            x.order(1, 0, 5, 1);
            x.order(1, 1, 5, 2);
            x.order(1, 2, 5, 19);
            x.order(1, 3, 5, 100);
            x.order(1, 4, 5, 101);
            x.order(1, 5, 4, 50);
            x.pass(1).is(1);
            x.pass(18).is(2);
            // The last minute that goes by is one of these, and the next one is not.
            x.pass(81).is(1);
            x.pass(1).is(1);
            x.pass(1).is(0);
        });
        Edge.of(12, "Returns how many orders are DONE in these.", x -> {
            x.withNumbers();
            x.order(1, 0, 5, 1);
            x.order(1, 1, 5, 1);
            x.order(1, 2, 5, 1);
            x.order(1, 3, 5, 2);
            x.emergency(1);
            // The one that is put off is done in the next minute.
            x.pass(100).is(3);
            x.of(1, 0).is(WAITING);
            x.pass(1).is(1);
        });
        Edge.of(12, "in each first that of now is the next one, then orders are done", x -> {
            x.withNumbers();
            x.order(1, 0, 5, 19);
            x.pass(100).is(1);
            // It was done in 19, so that 79 is the last minute to turn it back.
            x.reverse(0).noState();
            x.of(0, 5).is(19);
        });
        Edge.of(12, "in each first that of now is the next one, then orders are done", x -> {
            x.withNumbers();
            x.passTo(9900);
            x.order(1, 0, 5, 9919);
            x.order(1, 1, 5, 10000);
            x.pass(99).is(1);
            x.of(1, 0).is(WAITING);
            x.room(10000).is(2);
            x.of(1, 5).is(10000);
        });
    }

    private static void passPutOff() {
        Edge.of(12, "But if the number may be called back then, the order is put off by 100 minutes", x -> {
            x.withNumbers();
            x.order(1, 0, 5, 100);
            x.order(1, 1, 5, 101);
            x.pass(70);
            x.emergency(0);
            x.emergency(1);
            x.pass(30).is(0);
            x.of(0, 0).is(WAITING);
            x.of(0, 5).is(200);
            x.server(0).is(0);
            x.firm(1, 5).is(0);
            x.number(0, 4).is(0);
            x.room(200).is(2);
            // 1 may not be called back any more, one minute later.
            x.pass(1).is(1);
            x.of(1, 0).is(DONE);
            x.pass(99).is(1);
            x.of(0, 0).is(DONE);
        });
        Edge.of(12, "But if the number may be called back then, the order is put off by 100 minutes", x -> {
            x.withNumbers();
            x.order(1, 0, 5, 10);
            // Another number's emergency call matters nothing.
            x.emergency(1);
            x.pass(10).is(1);
            x.emergency(0);
            x.order(2, 0, 5, 12);
            x.pass(2).is(0);
            x.of(1, 5).is(112);
            x.pass(80);
            x.emergency(0);
            x.pass(20).is(0);
            x.of(1, 5).is(212);
            x.of(1, 0).is(WAITING);
        });
        Edge.of(12, "and by 100 more as long as three orders wait for that one", x -> {
            x.withNumbers();
            x.order(1, 0, 5, 10);
            x.order(1, 1, 5, 110);
            x.order(1, 2, 5, 110);
            x.emergency(0);
            x.pass(10);
            // Two wait there: it is the third one.
            x.of(0, 5).is(110);
            x.room(110).is(0);
            x.pass(100).is(3);
        });
        Edge.of(12, "and by 100 more as long as three orders wait for that one", x -> {
            x.withNumbers();
            x.order(1, 0, 5, 10);
            for (int number = 1; number < 4; number++) {
                x.order(1, number, 5, 110);
            }
            x.emergency(0);
            x.pass(10);
            x.of(0, 5).is(210);
            x.pass(100).is(3);
            x.pass(100).is(1);
        });
        Edge.of(12, "the order is put off", x -> {
            x.withNumbers();
            x.passTo(9900);
            x.order(1, 0, 5, 9919);
            x.emergency(0);
            x.pass(19).is(0);
            // A minute that never comes.
            x.of(0, 5).is(10019);
            x.room(10019).is(2);
            x.of(0, 0).is(WAITING);
            x.pass(80).is(0);
            x.cancel(0).is(0);
        });
    }

    private static void passPutOffChains() {
        Edge.of(12, "and by 100 more as long as three orders wait for that one", x -> {
            x.withNumbers();
            x.give(1, 0);
            x.order(1, 0, 5, 10);
            for (int number = 1; number < 10; number++) {
                x.order(1, number, 5, 110 + (number - 1) / 3 * 100);
            }
            x.assign(10, 5);
            x.order(1, 10, 5, 10);
            x.emergency(0);
            x.emergency(10);
            x.cancel(9);
            x.pass(10).is(0);
            // 110 and 210 are full, and 310 has room for one.
            x.of(0, 5).is(310);
            x.of(10, 5).is(410);
        });
        Edge.of(12, "and by 100 more as long as three orders wait for that one", x -> {
            x.withSixtyOrders();
            x.pass(99);
            for (int number = 0; number < 60; number++) {
                x.emergency(number);
            }
            x.pass(20).is(0);
            for (int order = 0; order < 60; order++) {
                x.of(order, 5).is(200 + order / 3);
            }
            x.pass(80).is(0);
            x.room(200).is(0);
            x.pass(1).is(3);
        });
        Edge.of(12, "Returns how many orders are DONE in these.", x -> {
            x.withSixtyOrders();
            x.pass(99).is(0);
            x.pass(19).is(57);
            x.pass(1).is(3);
            x.firm(1, 5).is(-300);
            x.firm(0, 5).is(300);
            x.firm(1, 2).is(60);
            x.firm(0, 2).is(0);
        });
        Edge.of(12, "Returns how many orders are DONE in these.", x -> {
            x.withSixtyOrders();
            x.pass(80);
            x.pass(100).is(60);
        });
        Edge.of(12, "Orders of one minute come by their numbers.", x -> {
            x.withNumbers();
            x.order(1, 9, 5, 10);
            x.order(1, 5, 5, 10);
            x.order(1, 0, 5, 10);
            x.order(1, 1, 5, 110);
            x.order(1, 2, 5, 110);
            x.emergency(9);
            x.emergency(5);
            x.emergency(0);
            x.pass(10).is(0);
            // The one that was told first has the place that is left.
            x.of(0, 5).is(110);
            x.of(1, 5).is(210);
            x.of(2, 5).is(210);
        });
        Edge.of(12, "Orders of one minute come by their numbers.", x -> {
            x.withNumbers();
            x.order(1, 0, 5, 10);
            x.order(1, 1, 5, 110);
            x.order(1, 2, 5, 210);
            x.order(1, 3, 5, 210);
            x.emergency(0);
            x.pass(10);
            x.of(0, 5).is(110);
            x.pass(80);
            x.emergency(0);
            x.emergency(1);
            x.pass(20).is(0);
            // 0 waits for 110 since it was put off, and comes ahead of 1 for all that.
            x.of(0, 5).is(210);
            x.of(1, 5).is(310);
        });
    }

    private static void passWinnerServes() {
        Edge.of(12, "otherwise, if the firm that wins serves the number by then, the order is CANCELLED", x -> {
            x.withNumbers();
            x.order(1, 0, 5, 10);
            x.endFirm(0, 1);
            x.pass(9).is(0);
            x.of(0, 0).is(WAITING);
            x.number(0, 4).is(0);
            x.pass(1).is(0);
            x.of(0, 0).is(CANCELLED);
            x.of(0, 4).is(0);
            x.of(0, 5).is(10);
            x.firm(1, 5).is(0);
            x.firm(0, 5).is(0);
            x.server(0).is(1);
            x.firm(2, 6).is(0);
        });
        Edge.of(12, "otherwise, if the firm that wins serves the number by then, the order is CANCELLED", x -> {
            x.withNumbers();
            x.order(1, 0, 5, 10);
            x.pass(10);
            x.order(0, 0, 5, 12);
            x.reverse(0).is(0);
            x.pass(2).is(0);
            // The winner had it back by then.
            x.of(1, 0).is(CANCELLED);
            x.of(1, 4).is(1);
        });
        Edge.of(12, "otherwise, if the firm that wins serves the number by then, the order is CANCELLED", x -> {
            x.withNumbers();
            x.order(1, 0, 5, 10);
            x.endFirm(0, 1);
            x.emergency(0);
            x.pass(10).is(0);
            // That it may be called back comes first.
            x.of(0, 0).is(WAITING);
            x.of(0, 5).is(110);
            x.pass(100).is(0);
            x.of(0, 0).is(CANCELLED);
            x.of(0, 5).is(110);
        });
    }

    private static final String LEARNS = "As a minute goes by, behind its orders, each firm that is not down learns all changes "
        + "whose minute is at most that of now less its lag; what it knows it keeps.";

    private static void passLearning() {
        for (int lag : new int[] {0, 1, 2, 49, 50}) {
            Edge.of(12, LEARNS, x -> {
                x.withNumbers();
                x.setLag(2, lag);
                x.setLag(3, 50 - lag);
                x.order(1, 0, 5, 10);
                if (lag == 0) {
                    x.pass(9);
                    x.firm(2, 6).is(0);
                } else {
                    x.pass(10 + lag - 1);
                    x.firm(2, 6).is(1);
                    x.known(2, 0).is(0);
                }
                x.pass(1);
                x.firm(2, 6).is(0);
                x.known(2, 0).is(1);
                x.firm(3, 6).is(50 - lag > lag ? 1 : 0);
                x.known(3, 0).is(50 - lag > lag ? 0 : 1);
            });
        }
        for (int lag : new int[] {0, 1, 2, 50}) {
            Edge.of(12, LEARNS, x -> {
                x.withNumbers();
                x.move(0, 1, ALL);
                x.setLag(2, lag);
                // A change between minutes: no firm learns it ahead of the next one.
                x.reverse(0);
                x.firm(2, 6).is(1);
                if (lag > 1) {
                    x.pass(lag - 1);
                    x.firm(2, 6).is(1);
                }
                x.pass(1);
                x.firm(2, 6).is(0);
                x.known(2, 0).is(0);
            });
        }
        Edge.of(12, "each firm that is not down", x -> {
            x.withNumbers();
            x.setDown(2, true);
            x.order(1, 0, 5, 10);
            x.pass(10);
            x.firm(2, 6).is(1);
            x.firm(3, 6).is(0);
            x.pass(100);
            x.firm(2, 6).is(1);
            x.known(2, 0).is(0);
            x.setDown(2, false);
            x.firm(2, 6).is(1);
            x.pass(1);
            x.firm(2, 6).is(0);
            x.known(2, 0).is(1);
        });
        Edge.of(12, "what it knows it keeps", x -> {
            x.withNumbers();
            x.move(0, 1, ALL);
            x.setLag(2, 50);
            x.pass(1);
            x.known(2, 0).is(1);
            x.firm(2, 6).is(0);
            x.setDown(2, true);
            x.pass(1);
            x.known(2, 0).is(1);
            x.firm(2, 6).is(0);
        });
        Edge.of(12, "A firm may be GONE.", x -> {
            x.withNumbers();
            x.setDown(3, true);
            x.endFirm(2, 4);
            x.endFirm(3, 4);
            x.order(1, 0, 5, 10);
            x.pass(10);
            // GONE is not down.
            x.firm(2, 6).is(0);
            x.firm(3, 6).is(1);
        });
    }

    private static void passLearningOrder() {
        Edge.of(12, "in each first that of now is the next one, then orders are done, then firms learn changes", x -> {
            x.withNumbers();
            x.order(1, 0, 5, 10);
            x.order(1, 1, 5, 11);
            x.setLag(2, 1);
            x.pass(10).is(1);
            x.known(3, 0).is(1);
            x.known(2, 0).is(0);
            x.pass(1).is(1);
            x.known(2, 0).is(1);
            x.known(2, 1).is(0);
            x.firm(2, 6).is(1);
            x.firm(3, 6).is(0);
        });
        Edge.of(12, "Each firm has a table: it knows the changes from the first one on up to some one.", x -> {
            x.withNumbers();
            x.setLag(2, 5);
            x.order(1, 0, 5, 10);
            x.order(1, 1, 5, 12);
            x.order(1, 2, 5, 12);
            x.order(1, 3, 5, 13);
            x.pass(14);
            x.firm(2, 6).is(4);
            x.pass(1);
            x.firm(2, 6).is(3);
            x.pass(1);
            x.firm(2, 6).is(3);
            x.pass(1);
            x.firm(2, 6).is(1);
            x.known(2, 2).is(1);
            x.known(2, 3).is(0);
            x.pass(1);
            x.firm(2, 6).is(0);
        });
        Edge.of(12, "learns all changes whose minute is at most that of now less its lag", x -> {
            x.withNumbers();
            x.setLag(2, 50);
            x.order(1, 0, 5, 10);
            x.order(1, 1, 5, 11);
            x.pass(11);
            // By a lag that is smaller now it learns all that it would have learnt.
            x.setLag(2, 1);
            x.firm(2, 6).is(2);
            x.pass(1);
            x.firm(2, 6).is(0);
        });
    }

    private static void setLag() {
        Edge.of(13, "`firm`: 0 to 5", x -> {
            for (int bad : Edge.NO_FIRMS) {
                x.setLag(bad, 5).noIndex();
            }
            x.setLag(0, 7).is(0);
            x.setLag(5, 8).is(0);
            x.firm(0, 4).is(7);
            x.firm(5, 4).is(8);
            x.firm(1, 4).is(0);
        });
        Edge.of(13, "`lag`: 0 to 50", x -> {
            x.setLag(3, 50).is(0);
            for (int bad : new int[] {-1, 51, 256, LOW, HIGH}) {
                x.setLag(3, bad).noArgument();
            }
            x.firm(3, 4).is(50);
            x.setLag(3, 0).is(50);
            x.firm(3, 4).is(0);
        });
        Edge.of(13, "Returns the one before.", x -> {
            x.setLag(1, 3).is(0);
            x.setLag(1, 4).is(3);
            x.setLag(1, 4).is(4);
            x.setLag(2, 1).is(0);
        });
        Edge.of(13, "Sets the lag of a firm.", x -> {
            x.setLag(1, 3);
            x.firm(1, 4).is(3);
            x.firm(0, 4).is(0);
            x.endFirm(1, 2);
            x.setLag(1, 5).is(3);
            x.firm(1, 4).is(5);
        });
        Edge.of(13, "Throws `IndexOutOfBoundsException` if there is no such firm", x -> {
            for (int bad : Edge.NO_FIRMS) {
                x.setLag(bad, 51).noIndex();
                x.setLag(bad, -1).noIndex();
            }
        });
        Edge.of(13, "Throws `IllegalArgumentException` if lag is out of range", x -> {
            x.setLag(0, -1).noArgument();
            x.setLag(0, 51).noArgument();
        });
    }

    private static void setDown() {
        Edge.of(14, "`firm`: 0 to 5", x -> {
            for (int bad : Edge.NO_FIRMS) {
                x.setDown(bad, true).noIndex();
                x.setDown(bad, false).noIndex();
            }
            x.setDown(0, true).is(0);
            x.setDown(5, true).is(0);
            x.firm(0, 3).is(1);
            x.firm(5, 3).is(1);
            x.firm(1, 3).is(0);
        });
        Edge.of(14, "Throws `IndexOutOfBoundsException` if there is no such firm", x -> {
            x.setDown(-1, true).noIndex();
            x.setDown(6, true).noIndex();
        });
        Edge.of(14, "Returns whether it was.", x -> {
            x.setDown(2, false).is(0);
            x.setDown(2, true).is(0);
            x.setDown(2, true).is(1);
            x.setDown(2, false).is(1);
            x.setDown(2, false).is(0);
        });
        Edge.of(14, "Lets a firm be down, or not any more.", x -> {
            x.withNumbers();
            x.setDown(0, true);
            x.firm(0, 3).is(1);
            // One that is down still holds, serves, wins and is dialled from.
            x.give(1, 0).is(2);
            x.assign(10, 5).is(0);
            x.dial(10, 0, Portinghall.ALL_CALL).is(Portinghall.ARRIVED);
            x.setDown(1, true);
            x.order(1, 0, 5, 1);
            x.pass(1).is(1);
            x.setDown(0, false);
            x.firm(0, 3).is(0);
        });
        Edge.of(14, "`isDown`: whether it is", x -> {
            x.endFirm(4, 3);
            x.setDown(4, true).is(0);
            x.firm(4, 3).is(1);
            x.setDown(4, false).is(1);
            x.firm(4, 3).is(0);
        });
    }

    private static void correct() {
        Edge.of(15, "`firm`: 0 to 5", x -> {
            x.withNumbers();
            x.move(0, 1);
            for (int bad : Edge.NO_FIRMS) {
                x.correct(bad).noIndex();
            }
            x.correct(0).is(1);
            x.correct(5).is(1);
            x.firm(1, 6).is(1);
        });
        Edge.of(15, "Throws `IndexOutOfBoundsException` if there is no such firm", x -> {
            x.correct(-1).noIndex();
            x.correct(6).noIndex();
        });
        Edge.of(15, "Returns how many of them it did not know.", x -> {
            x.withNumbers();
            x.correct(2).is(0);
            x.move(0, 1, 3);
            x.move(1, 1);
            x.move(0, 4);
            x.correct(2).is(3);
            x.correct(2).is(0);
            x.correct(3).is(2);
            x.reverse(2);
            x.correct(2).is(1);
        });
        Edge.of(15, "Lets a firm learn all changes.", x -> {
            x.withNumbers();
            x.move(0, 1);
            x.move(0, 4);
            x.move(1, 3);
            // It is down, and has a lag: it learns all the same.
            x.setLag(2, 50);
            x.known(2, 0).is(0);
            x.correct(2).is(3);
            x.known(2, 0).is(4);
            x.known(2, 1).is(3);
            x.firm(2, 6).is(0);
            x.known(5, 0).is(0);
            x.firm(2, 3).is(1);
            x.firm(2, 4).is(50);
            x.endFirm(5, 2);
            x.correct(5).is(3);
            x.known(5, 0).is(4);
        });
        Edge.of(15, "what it knows it keeps", x -> {
            x.withNumbers();
            x.setLag(2, 50);
            x.order(1, 0, 5, 10);
            x.pass(10);
            x.correct(2).is(1);
            x.pass(1);
            x.known(2, 0).is(1);
            x.firm(2, 6).is(0);
        });
    }
}
